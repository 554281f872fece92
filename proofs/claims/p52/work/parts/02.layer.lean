def wsX0_init : List Cond := .code yX0_init cX0_init 1 none :: U
def wsX0_shortestTwin : List Cond := .code yX0_shortestTwin cX0_shortestTwin 5 (some .int) :: U
def wsX0_reach : List Cond := .code yX0_reach cX0_reach 7 (some .boolean) :: U
def wsX0_goOn : List Cond := .code yX0_goOn cX0_goOn 5 (some .boolean) :: U
def wsX0_append : List Cond := .code yX0_append cX0_append 8 (some .boolean) :: U
def wsX1_init : List Cond := .code yX1_init cX1_init 1 none :: U
def wsX1_lay : List Cond := .code yX1_lay cX1_lay 5 none :: U
def wsX1_layPiece : List Cond := .code yX1_layPiece cX1_layPiece 5 none :: U
def wsX1_layLines : List Cond := .code yX1_layLines cX1_layLines 7 none :: U
def wsX1_addLine : List Cond := .code yX1_addLine cX1_addLine 4 none :: U
def wsX1_lengthOf : List Cond := .code yX1_lengthOf cX1_lengthOf 2 (some .int) :: U
def wsX1_shortBy : List Cond := .code yX1_shortBy cX1_shortBy 2 (some .int) :: U
def wsX1_hyphenCount : List Cond := .code yX1_hyphenCount cX1_hyphenCount 3 (some .int) :: U
def wsX1_longestPiece : List Cond := .code yX1_longestPiece cX1_longestPiece 3 (some .int) :: U
def wsX1_raggedness : List Cond := .code yX1_raggedness cX1_raggedness 3 (some .int) :: U
def wsX1_leastRaggedness : List Cond := .code yX1_leastRaggedness cX1_leastRaggedness 2 (some .int) :: U
def wsX1_leastFrom : List Cond := .code yX1_leastFrom cX1_leastFrom 7 (some .int) :: U
def wsX2_init : List Cond := .code yX2_init cX2_init 1 none :: U
def wsX2_keep : List Cond := .code yX2_keep cX2_keep 5 none :: U
def wsX3_init : List Cond := .code yX3_init cX3_init 1 none :: U
def wsX3_takes : List Cond := .code yX3_takes cX3_takes 5 (some .boolean) :: U
def wsX3_nextToken : List Cond := .code yX3_nextToken cX3_nextToken 3 none :: U
def wsX3_nextNumeral : List Cond := .code yX3_nextNumeral cX3_nextNumeral 3 none :: U
def wsX3_isWord : List Cond := .code yX3_isWord cX3_isWord 4 (some .boolean) :: U
def wsX3_faultOfToken : List Cond := .code yX3_faultOfToken cX3_faultOfToken 2 (some .int) :: U
def wsX3_takePart : List Cond := .code yX3_takePart cX3_takePart 3 (some .int) :: U
def wsX3_signNamed : List Cond := .code yX3_signNamed cX3_signNamed 2 (some .int) :: U
def wsX3_takeLetters : List Cond := .code yX3_takeLetters cX3_takeLetters 5 (some .int) :: U
def wsX3_takeCell : List Cond := .code yX3_takeCell cX3_takeCell 3 (some .int) :: U
def wsX3_takeMore : List Cond := .code yX3_takeMore cX3_takeMore 3 (some .int) :: U
def wsX3_condNamed : List Cond := .code yX3_condNamed cX3_condNamed 2 (some .int) :: U
def wsX3_takeRule : List Cond := .code yX3_takeRule cX3_takeRule 2 (some .int) :: U
def wsX3_takeSign : List Cond := .code yX3_takeSign cX3_takeSign 3 (some .int) :: U
def wsX4_init : List Cond := .code yX4_init cX4_init 1 none :: U
def wsX4_put : List Cond := .code yX4_put cX4_put 4 none :: U
def wsX4_count : List Cond := .code yX4_count cX4_count 6 none :: U
def wsX4_readings : List Cond := .code yX4_readings cX4_readings 1 (some .int) :: U
def wsX4_goesOn : List Cond := .code yX4_goesOn cX4_goesOn 6 (some .boolean) :: U
def wsX4_findFirst : List Cond := .code yX4_findFirst cX4_findFirst 5 none :: U
def wsX4_lowestAt : List Cond := .code yX4_lowestAt cX4_lowestAt 4 (some .int) :: U
def wsX4_trueReadings : List Cond := .code yX4_trueReadings cX4_trueReadings 2 (some .int) :: U
def wsX4_trueFrom : List Cond := .code yX4_trueFrom cX4_trueFrom 6 (some .int) :: U
def wsX4_staysTrue : List Cond := .code yX4_staysTrue cX4_staysTrue 6 (some .boolean) :: U
def wsX4_endsTrue : List Cond := .code yX4_endsTrue cX4_endsTrue 3 (some .boolean) :: U
def wsX4_setText : List Cond := .code yX4_setText cX4_setText 7 (some .boolean) :: U
def wsX4_giveRow : List Cond := .code yX4_giveRow cX4_giveRow 5 (some .boolean) :: U
def wsX5_init : List Cond := .code yX5_init cX5_init 1 none :: U
def wsX5_isThere : List Cond := .code yX5_isThere cX5_isThere 1 (some .boolean) :: U
def wsX5_take : List Cond := .code yX5_take cX5_take 3 none :: U
def wsX5_greatLetters : List Cond := .code yX5_greatLetters cX5_greatLetters 3 (some .int) :: U
def wsX5_beginsFigure : List Cond := .code yX5_beginsFigure cX5_beginsFigure 2 (some .boolean) :: U
def wsX5_beginsWord : List Cond := .code yX5_beginsWord cX5_beginsWord 2 (some .boolean) :: U
def wsX5_figures : List Cond := .code yX5_figures cX5_figures 3 (some .int) :: U
def wsX5_mostOftenLetter : List Cond := .code yX5_mostOftenLetter cX5_mostOftenLetter 4 (some .int) :: U
def wsX5_placesOf : List Cond := .code yX5_placesOf cX5_placesOf 7 (some .int) :: U
def wsX5_plainLetterCells : List Cond := .code yX5_plainLetterCells cX5_plainLetterCells 5 (some .int) :: U
def wsX5_fewestLetterCells : List Cond := .code yX5_fewestLetterCells cX5_fewestLetterCells 4 (some .int) :: U
def wsX5_fewestOfWord : List Cond := .code yX5_fewestOfWord cX5_fewestOfWord 6 (some .int) :: U
def wsX5_takeIfFewer : List Cond := .code yX5_takeIfFewer cX5_takeIfFewer 5 none :: U
def wsX6_init : List Cond := .code yX6_init cX6_init 1 none :: U
def wsX6_sets : List Cond := .code yX6_sets cX6_sets 8 (some .boolean) :: U
def wsX6_begin : List Cond := .code yX6_begin cX6_begin 3 none :: U
def wsX6_add : List Cond := .code yX6_add cX6_add 3 none :: U
def wsX6_addRule : List Cond := .code yX6_addRule cX6_addRule 4 none :: U
def wsX6_faulty : List Cond := .code yX6_faulty cX6_faulty 3 (some .int) :: U
def wsX6_setDigit : List Cond := .code yX6_setDigit cX6_setDigit 5 (some .int) :: U
def wsX6_setLetters : List Cond := .code yX6_setLetters cX6_setLetters 6 (some .int) :: U
def wsX6_usedInAll : List Cond := .code yX6_usedInAll cX6_usedInAll 3 (some .int) :: U
def wsX6_dotsOf : List Cond := .code yX6_dotsOf cX6_dotsOf 5 (some .int) :: U
def wsX6_densest : List Cond := .code yX6_densest cX6_densest 5 (some .int) :: U
def wsX6_timesOf : List Cond := .code yX6_timesOf cX6_timesOf 4 (some .int) :: U
def wsX7_init : List Cond := .code yX7_init cX7_init 1 none :: U
def wsX7_empty : List Cond := .code yX7_empty cX7_empty 1 none :: U
def wsX7_copyOf : List Cond := .code yX7_copyOf cX7_copyOf 2 none :: U
def wsX7_has : List Cond := .code yX7_has cX7_has 2 (some .boolean) :: U
def wsX7_isThere : List Cond := .code yX7_isThere cX7_isThere 2 (some .boolean) :: U
def wsX7_isIn : List Cond := .code yX7_isIn cX7_isIn 2 (some .boolean) :: U
def wsX7_letterAt : List Cond := .code yX7_letterAt cX7_letterAt 3 (some .int) :: U
def wsX7_cellAt : List Cond := .code yX7_cellAt cX7_cellAt 3 (some .int) :: U
def wsX7_putLetter : List Cond := .code yX7_putLetter cX7_putLetter 4 none :: U
def wsX7_putCell : List Cond := .code yX7_putCell cX7_putCell 4 none :: U
def wsX7_isSameRule : List Cond := .code yX7_isSameRule cX7_isSameRule 4 (some .boolean) :: U
def wsX7_condHolds : List Cond := .code yX7_condHolds cX7_condHolds 4 (some .boolean) :: U
def wsX7_mayStand : List Cond := .code yX7_mayStand cX7_mayStand 8 (some .boolean) :: U
def wsX7_longestRule : List Cond := .code yX7_longestRule cX7_longestRule 10 (some .int) :: U
def wsX7_plainRule : List Cond := .code yX7_plainRule cX7_plainRule 5 (some .int) :: U
def wsX7_begins : List Cond := .code yX7_begins cX7_begins 3 (some .boolean) :: U
def wsX7_areAlike : List Cond := .code yX7_areAlike cX7_areAlike 7 (some .boolean) :: U
def wsX7_areMirrors : List Cond := .code yX7_areMirrors cX7_areMirrors 4 (some .boolean) :: U
def wsX7_unlikeDots : List Cond := .code yX7_unlikeDots cX7_unlikeDots 5 (some .int) :: U
def wsX7_twinCouples : List Cond := .code yX7_twinCouples cX7_twinCouples 5 (some .int) :: U
def wsX7_clashingCouples : List Cond := .code yX7_clashingCouples cX7_clashingCouples 4 (some .int) :: U
def wsX8_init : List Cond := .code yX8_init cX8_init 2 none :: U
def wsX8_isTray : List Cond := .code yX8_isTray cX8_isTray 2 (some .boolean) :: U
def wsX8_isSort : List Cond := .code yX8_isSort cX8_isSort 2 (some .boolean) :: U
def wsX8_isMissing : List Cond := .code yX8_isMissing cX8_isMissing 2 (some .boolean) :: U
def wsX8_sortOf : List Cond := .code yX8_sortOf cX8_sortOf 2 (some .int) :: U
def wsX8_hasFrom : List Cond := .code yX8_hasFrom cX8_hasFrom 4 (some .boolean) :: U
def wsX8_whyNoPlace : List Cond := .code yX8_whyNoPlace cX8_whyNoPlace 3 (some .int) :: U
def wsX8_lay : List Cond := .code yX8_lay cX8_lay 5 none :: U
def wsX8_put : List Cond := .code yX8_put cX8_put 7 none :: U
def wsX8_numberAt : List Cond := .code yX8_numberAt cX8_numberAt 3 (some .long) :: U
def wsX8_move : List Cond := .code yX8_move cX8_move 6 none :: U
def wsX8_areWithin : List Cond := .code yX8_areWithin cX8_areWithin 7 (some .boolean) :: U
def wsX9_init : List Cond := .code yX9_init cX9_init 1 none :: U
def wsX9_wearOff : List Cond := .code yX9_wearOff cX9_wearOff 6 (some .int) :: U
def wsX9_leavesNoneBare : List Cond := .code yX9_leavesNoneBare cX9_leavesNoneBare 5 (some .boolean) :: U
def wsX9_leftOf : List Cond := .code yX9_leftOf cX9_leftOf 5 (some .int) :: U
def wsX10_init : List Cond := .code yX10_init cX10_init 2 none :: U
def wsX10_answer : List Cond := .code yX10_answer cX10_answer 2 (some .int) :: U
def wsX10_refuse : List Cond := .code yX10_refuse cX10_refuse 2 (some .int) :: U
def wsX10_did : List Cond := .code yX10_did cX10_did 1 (some .boolean) :: U
def wsX10_didNot : List Cond := .code yX10_didNot cX10_didNot 2 (some .boolean) :: U
def wsX10_answerOr : List Cond := .code yX10_answerOr cX10_answerOr 4 (some .int) :: U
def wsX10_status : List Cond := .code yX10_status cX10_status 1 (some .int) :: U
def wsX10_top : List Cond := .code yX10_top cX10_top 1 (some .long) :: U
def wsX10_bottom : List Cond := .code yX10_bottom cX10_bottom 1 (some .long) :: U
def wsX10_tray : List Cond := .code yX10_tray cX10_tray 4 (some .boolean) :: U
def wsX10_write : List Cond := .code yX10_write cX10_write 6 (some .boolean) :: U
def wsX10_read : List Cond := .code yX10_read cX10_read 4 (some .long) :: U
def wsX10_pour : List Cond := .code yX10_pour cX10_pour 6 (some .boolean) :: U
def wsX10_feed : List Cond := .code yX10_feed cX10_feed 6 (some .int) :: U
def wsX10_feedInt : List Cond := .code yX10_feedInt cX10_feedInt 3 none :: U
def wsX10_press : List Cond := .code yX10_press cX10_press 3 (some .int) :: U
def wsX10_writing : List Cond := .code yX10_writing cX10_writing 3 (some .int) :: U
def wsX10_showSpare : List Cond := .code yX10_showSpare cX10_showSpare 2 none :: U
def wsX10_fault : List Cond := .code yX10_fault cX10_fault 2 (some .int) :: U
def wsX10_told : List Cond := .code yX10_told cX10_told 3 (some .int) :: U
def wsX10_rule : List Cond := .code yX10_rule cX10_rule 3 (some .int) :: U
def wsX10_letter : List Cond := .code yX10_letter cX10_letter 3 (some .int) :: U
def wsX10_cellOf : List Cond := .code yX10_cellOf cX10_cellOf 3 (some .int) :: U
def wsX10_drop : List Cond := .code yX10_drop cX10_drop 4 (some .boolean) :: U
def wsX10_reset : List Cond := .code yX10_reset cX10_reset 1 (some .int) :: U
def wsX10_size : List Cond := .code yX10_size cX10_size 2 (some .int) :: U
def wsX10_pages : List Cond := .code yX10_pages cX10_pages 2 (some .int) :: U
def wsX10_isSetCell : List Cond := .code yX10_isSetCell cX10_isSetCell 2 (some .boolean) :: U
def wsX10_isLine : List Cond := .code yX10_isLine cX10_isLine 2 (some .boolean) :: U
def wsX10_cell : List Cond := .code yX10_cell cX10_cell 2 (some .int) :: U
def wsX10_line : List Cond := .code yX10_line cX10_line 2 (some .int) :: U
def wsX10_lineAt : List Cond := .code yX10_lineAt cX10_lineAt 3 (some .int) :: U
def wsX10_cellInLine : List Cond := .code yX10_cellInLine cX10_cellInLine 3 (some .int) :: U
def wsX10_onPage : List Cond := .code yX10_onPage cX10_onPage 5 (some .int) :: U
def wsX10_hyphens : List Cond := .code yX10_hyphens cX10_hyphens 1 (some .int) :: U
def wsX10_used : List Cond := .code yX10_used cX10_used 2 (some .int) :: U
def wsX10_useless : List Cond := .code yX10_useless cX10_useless 3 (some .int) :: U
def wsX10_dots : List Cond := .code yX10_dots cX10_dots 1 (some .int) :: U
def wsX10_plain : List Cond := .code yX10_plain cX10_plain 2 (some .int) :: U
def wsX10_plainCells : List Cond := .code yX10_plainCells cX10_plainCells 2 (some .int) :: U
def wsX10_cellsBesideLetters : List Cond := .code yX10_cellsBesideLetters cX10_cellsBesideLetters 1 (some .int) :: U
def wsX10_fewest : List Cond := .code yX10_fewest cX10_fewest 1 (some .int) :: U
def wsX10_cellsWith : List Cond := .code yX10_cellsWith cX10_cellsWith 2 (some .int) :: U
def wsX10_saving : List Cond := .code yX10_saving cX10_saving 4 (some .int) :: U
def wsX10_cheapest : List Cond := .code yX10_cheapest cX10_cheapest 5 (some .int) :: U
def wsX10_piece : List Cond := .code yX10_piece cX10_piece 3 (some .int) :: U
def wsX10_by : List Cond := .code yX10_by cX10_by 2 (some .int) :: U
def wsX10_dense : List Cond := .code yX10_dense cX10_dense 2 (some .int) :: U
def wsX10_alike : List Cond := .code yX10_alike cX10_alike 6 (some .int) :: U
def wsX10_longest : List Cond := .code yX10_longest cX10_longest 1 (some .int) :: U
def wsX10_inLine : List Cond := .code yX10_inLine cX10_inLine 4 (some .int) :: U
def wsX10_wasted : List Cond := .code yX10_wasted cX10_wasted 2 (some .int) :: U
def wsX10_saved : List Cond := .code yX10_saved cX10_saved 2 (some .int) :: U
def wsX10_frequent : List Cond := .code yX10_frequent cX10_frequent 2 (some .int) :: U
def wsX10_pieceOf : List Cond := .code yX10_pieceOf cX10_pieceOf 4 (some .int) :: U
def wsX10_signs : List Cond := .code yX10_signs cX10_signs 2 (some .int) :: U
def wsX10_covers : List Cond := .code yX10_covers cX10_covers 2 (some .int) :: U
def wsX10_often : List Cond := .code yX10_often cX10_often 2 (some .int) :: U
def wsX10_commonest : List Cond := .code yX10_commonest cX10_commonest 5 (some .int) :: U
def wsX10_ragged : List Cond := .code yX10_ragged cX10_ragged 1 (some .int) :: U
def wsX10_leastRagged : List Cond := .code yX10_leastRagged cX10_leastRagged 2 (some .int) :: U
def wsX10_whyNoRow : List Cond := .code yX10_whyNoRow cX10_whyNoRow 3 (some .int) :: U
def wsX10_whyNoFailed : List Cond := .code yX10_whyNoFailed cX10_whyNoFailed 5 (some .int) :: U
def wsX10_takeRow : List Cond := .code yX10_takeRow cX10_takeRow 6 none :: U
def wsX10_ways : List Cond := .code yX10_ways cX10_ways 4 (some .int) :: U
def wsX10_first : List Cond := .code yX10_first cX10_first 4 (some .int) :: U
def wsX10_firstAt : List Cond := .code yX10_firstAt cX10_firstAt 2 (some .int) :: U
def wsX10_letters : List Cond := .code yX10_letters cX10_letters 1 (some .int) :: U
def wsX10_truths : List Cond := .code yX10_truths cX10_truths 4 (some .int) :: U
def wsX10_failed : List Cond := .code yX10_failed cX10_failed 5 (some .int) :: U
def wsX10_mirror : List Cond := .code yX10_mirror cX10_mirror 2 (some .int) :: U
def wsX10_mirrorOf : List Cond := .code yX10_mirrorOf cX10_mirrorOf 1 (some .int) :: U
def wsX10_turned : List Cond := .code yX10_turned cX10_turned 3 (some .int) :: U
def wsX10_twins : List Cond := .code yX10_twins cX10_twins 1 (some .int) :: U
def wsX10_near : List Cond := .code yX10_near cX10_near 3 (some .int) :: U
def wsX10_clash : List Cond := .code yX10_clash cX10_clash 3 (some .int) :: U
def wsX10_clashes : List Cond := .code yX10_clashes cX10_clashes 1 (some .int) :: U
def wsX10_clear : List Cond := .code yX10_clear cX10_clear 1 (some .int) :: U
def wsX10_twin : List Cond := .code yX10_twin cX10_twin 2 (some .int) :: U
def wsX10_lacks : List Cond := .code yX10_lacks cX10_lacks 3 (some .int) :: U
def wsX10_areDraws : List Cond := .code yX10_areDraws cX10_areDraws 2 (some .boolean) :: U
def wsX10_worn : List Cond := .code yX10_worn cX10_worn 3 (some .int) :: U
def wsX10_wornAt : List Cond := .code yX10_wornAt cX10_wornAt 2 (some .int) :: U
def wsX10_odds : List Cond := .code yX10_odds cX10_odds 7 (some .boolean) :: U
def wsX10_tellFraction : List Cond := .code yX10_tellFraction cX10_tellFraction 5 none :: U
def wsX10_mark : List Cond := .code yX10_mark cX10_mark 1 (some .int) :: U
def wsX10_back : List Cond := .code yX10_back cX10_back 2 (some .int) :: U
def wsX10_isBlank : List Cond := .code yX10_isBlank cX10_isBlank 1 (some .boolean) :: U
def wsX10_isDigit : List Cond := .code yX10_isDigit cX10_isDigit 1 (some .boolean) :: U
def wsX10_isSmall : List Cond := .code yX10_isSmall cX10_isSmall 1 (some .boolean) :: U
def wsX10_isGreat : List Cond := .code yX10_isGreat cX10_isGreat 1 (some .boolean) :: U
def wsX10_isLetter : List Cond := .code yX10_isLetter cX10_isLetter 1 (some .boolean) :: U
def wsX10_letterOf : List Cond := .code yX10_letterOf cX10_letterOf 1 (some .int) :: U
def wsX10_letterOfDigit : List Cond := .code yX10_letterOfDigit cX10_letterOfDigit 1 (some .int) :: U
def wsX10_wordEnd : List Cond := .code yX10_wordEnd cX10_wordEnd 4 (some .int) :: U
def wsX11_init : List Cond := .code yX11_init cX11_init 1 none :: U
def wsX11_empties : List Cond := .code yX11_empties cX11_empties 3 none :: U
def wsX11_status : List Cond := .code yX11_status cX11_status 1 (some .int) :: U
def wsX11_top : List Cond := .code yX11_top cX11_top 1 (some .long) :: U
def wsX11_bottom : List Cond := .code yX11_bottom cX11_bottom 1 (some .long) :: U
def wsX11_is : List Cond := .code yX11_is cX11_is 2 (some .boolean) :: U
def wsX11_refuse : List Cond := .code yX11_refuse cX11_refuse 2 (some .int) :: U
def wsX11_gives : List Cond := .code yX11_gives cX11_gives 2 (some .int) :: U
def wsX11_tellsBy : List Cond := .code yX11_tellsBy cX11_tellsBy 11 (some .boolean) :: U
def wsX11_isTray : List Cond := .code yX11_isTray cX11_isTray 1 (some .boolean) :: U
def wsX11_cut : List Cond := .code yX11_cut cX11_cut 3 (some .long) :: U
def wsX11_tray : List Cond := .code yX11_tray cX11_tray 5 (some .boolean) :: U
def wsX11_wrongPlace : List Cond := .code yX11_wrongPlace cX11_wrongPlace 3 (some .int) :: U
def wsX11_write : List Cond := .code yX11_write cX11_write 6 (some .boolean) :: U
def wsX11_read : List Cond := .code yX11_read cX11_read 3 (some .long) :: U
def wsX11_pour : List Cond := .code yX11_pour cX11_pour 8 (some .boolean) :: U
def wsX11_isFrom : List Cond := .code yX11_isFrom cX11_isFrom 6 (some .boolean) :: U
def wsX11_feed : List Cond := .code yX11_feed cX11_feed 6 (some .int) :: U
def wsX11_four : List Cond := .code yX11_four cX11_four 3 none :: U
def wsX11_byteAt : List Cond := .code yX11_byteAt cX11_byteAt 2 (some .int) :: U
def wsX11_isSmall : List Cond := .code yX11_isSmall cX11_isSmall 1 (some .boolean) :: U
def wsX11_isDigit : List Cond := .code yX11_isDigit cX11_isDigit 1 (some .boolean) :: U
def wsX11_ahead : List Cond := .code yX11_ahead cX11_ahead 2 none :: U
def wsX11_isSign : List Cond := .code yX11_isSign cX11_isSign 2 (some .boolean) :: U
def wsX11_inWords : List Cond := .code yX11_inWords cX11_inWords 7 (some .int) :: U
def wsX11_fails : List Cond := .code yX11_fails cX11_fails 2 (some .boolean) :: U
def wsX11_begins : List Cond := .code yX11_begins cX11_begins 4 (some .boolean) :: U
def wsX11_wantSign : List Cond := .code yX11_wantSign cX11_wantSign 2 (some .boolean) :: U
def wsX11_wantWord : List Cond := .code yX11_wantWord cX11_wantWord 3 (some .boolean) :: U
def wsX11_number : List Cond := .code yX11_number cX11_number 4 (some .boolean) :: U
def wsX11_fault : List Cond := .code yX11_fault cX11_fault 2 (some .int) :: U
def wsX11_taken : List Cond := .code yX11_taken cX11_taken 2 (some .int) :: U
def wsX11_ruleAt : List Cond := .code yX11_ruleAt cX11_ruleAt 2 (some .int) :: U
def wsX11_likeRule : List Cond := .code yX11_likeRule cX11_likeRule 5 (some .boolean) :: U
def wsX11_aRule : List Cond := .code yX11_aRule cX11_aRule 5 (some .boolean) :: U
def wsX11_pressPart : List Cond := .code yX11_pressPart cX11_pressPart 2 (some .boolean) :: U
def wsX11_press : List Cond := .code yX11_press cX11_press 4 (some .int) :: U
def wsX11_isBad : List Cond := .code yX11_isBad cX11_isBad 3 (some .boolean) :: U
def wsX11_byteOf : List Cond := .code yX11_byteOf cX11_byteOf 2 (some .int) :: U
def wsX11_isBlank : List Cond := .code yX11_isBlank cX11_isBlank 1 (some .boolean) :: U
def wsX11_isGreat : List Cond := .code yX11_isGreat cX11_isGreat 1 (some .boolean) :: U
def wsX11_isLetter : List Cond := .code yX11_isLetter cX11_isLetter 1 (some .boolean) :: U
def wsX11_isDigit0 : List Cond := .code yX11_isDigit0 cX11_isDigit0 1 (some .boolean) :: U
def wsX11_letterOf : List Cond := .code yX11_letterOf cX11_letterOf 1 (some .int) :: U
def wsX11_holds : List Cond := .code yX11_holds cX11_holds 3 (some .boolean) :: U
def wsX11_stands : List Cond := .code yX11_stands cX11_stands 7 (some .boolean) :: U
def wsX11_isOut : List Cond := .code yX11_isOut cX11_isOut 2 (some .boolean) :: U
def wsX11_taking : List Cond := .code yX11_taking cX11_taking 7 (some .int) :: U
def wsX11_justOf : List Cond := .code yX11_justOf cX11_justOf 5 (some .int) :: U
def wsX11_sets : List Cond := .code yX11_sets cX11_sets 3 none :: U
def wsX11_setsRule : List Cond := .code yX11_setsRule cX11_setsRule 4 (some .int) :: U
def wsX11_wordEnd : List Cond := .code yX11_wordEnd cX11_wordEnd 3 (some .int) :: U
def wsX11_setsWord : List Cond := .code yX11_setsWord cX11_setsWord 6 (some .boolean) :: U
def wsX11_figureLetter : List Cond := .code yX11_figureLetter cX11_figureLetter 1 (some .int) :: U
def wsX11_setsAll : List Cond := .code yX11_setsAll cX11_setsAll 5 (some .boolean) :: U
def wsX11_takesSet : List Cond := .code yX11_takesSet cX11_takesSet 2 none :: U
def wsX11_laysBytes : List Cond := .code yX11_laysBytes cX11_laysBytes 2 none :: U
def wsX11_writing : List Cond := .code yX11_writing cX11_writing 3 (some .int) :: U
def wsX11_isRule : List Cond := .code yX11_isRule cX11_isRule 2 (some .boolean) :: U
def wsX11_told : List Cond := .code yX11_told cX11_told 2 (some .int) :: U
def wsX11_rule : List Cond := .code yX11_rule cX11_rule 3 (some .int) :: U
def wsX11_letter : List Cond := .code yX11_letter cX11_letter 3 (some .int) :: U
def wsX11_cellsOf : List Cond := .code yX11_cellsOf cX11_cellsOf 2 (some .int) :: U
def wsX11_cellAt : List Cond := .code yX11_cellAt cX11_cellAt 3 (some .int) :: U
def wsX11_cellOf : List Cond := .code yX11_cellOf cX11_cellOf 3 (some .int) :: U
def wsX11_drop : List Cond := .code yX11_drop cX11_drop 3 (some .boolean) :: U
def wsX11_isSet : List Cond := .code yX11_isSet cX11_isSet 1 (some .boolean) :: U
def wsX11_reset : List Cond := .code yX11_reset cX11_reset 1 (some .int) :: U
def wsX11_pieceMany : List Cond := .code yX11_pieceMany cX11_pieceMany 2 (some .int) :: U
def wsX11_laysCell : List Cond := .code yX11_laysCell cX11_laysCell 2 none :: U
def wsX11_newLine : List Cond := .code yX11_newLine cX11_newLine 1 none :: U
def wsX11_laysLines : List Cond := .code yX11_laysLines cX11_laysLines 7 none :: U
def wsX11_size : List Cond := .code yX11_size cX11_size 2 (some .int) :: U
def wsX11_cell : List Cond := .code yX11_cell cX11_cell 2 (some .int) :: U
def wsX11_isLine : List Cond := .code yX11_isLine cX11_isLine 2 (some .boolean) :: U
def wsX11_line : List Cond := .code yX11_line cX11_line 2 (some .int) :: U
def wsX11_lineAt : List Cond := .code yX11_lineAt cX11_lineAt 3 (some .int) :: U
def wsX11_onPage : List Cond := .code yX11_onPage cX11_onPage 5 (some .int) :: U
def wsX11_hyphens : List Cond := .code yX11_hyphens cX11_hyphens 1 (some .int) :: U
def wsX11_used : List Cond := .code yX11_used cX11_used 2 (some .int) :: U
def wsX11_useless : List Cond := .code yX11_useless cX11_useless 3 (some .int) :: U
def wsX11_bits : List Cond := .code yX11_bits cX11_bits 3 (some .int) :: U
def wsX11_dots : List Cond := .code yX11_dots cX11_dots 3 (some .int) :: U
def wsX11_piece : List Cond := .code yX11_piece cX11_piece 3 (some .int) :: U
def wsX11_by : List Cond := .code yX11_by cX11_by 2 (some .int) :: U
def wsX11_dense : List Cond := .code yX11_dense cX11_dense 5 (some .int) :: U
def wsX11_alike : List Cond := .code yX11_alike cX11_alike 5 (some .int) :: U
def wsX11_longest : List Cond := .code yX11_longest cX11_longest 3 (some .int) :: U
def wsX11_inLine : List Cond := .code yX11_inLine cX11_inLine 4 (some .int) :: U
def wsX11_covers : List Cond := .code yX11_covers cX11_covers 5 (some .int) :: U
def wsX11_oftenOf : List Cond := .code yX11_oftenOf cX11_oftenOf 4 (some .int) :: U
def wsX11_often : List Cond := .code yX11_often cX11_often 2 (some .int) :: U
def wsX11_commonest : List Cond := .code yX11_commonest cX11_commonest 4 (some .int) :: U
def wsX11_shorter : List Cond := .code yX11_shorter cX11_shorter 2 (some .int) :: U
def wsX11_ragged : List Cond := .code yX11_ragged cX11_ragged 3 (some .int) :: U
def wsX11_leastRagged : List Cond := .code yX11_leastRagged cX11_leastRagged 6 (some .int) :: U
def wsX11_wasted : List Cond := .code yX11_wasted cX11_wasted 2 (some .int) :: U
def wsX11_frequent : List Cond := .code yX11_frequent cX11_frequent 6 (some .int) :: U
def wsX11_signs : List Cond := .code yX11_signs cX11_signs 6 (some .int) :: U
def wsX11_pieceOf : List Cond := .code yX11_pieceOf cX11_pieceOf 3 (some .int) :: U
def wsX11_plainOf : List Cond := .code yX11_plainOf cX11_plainOf 4 (some .int) :: U
def wsX11_saved : List Cond := .code yX11_saved cX11_saved 1 (some .int) :: U
def wsX11_plain : List Cond := .code yX11_plain cX11_plain 1 (some .int) :: U
def wsX11_leastOf : List Cond := .code yX11_leastOf cX11_leastOf 5 (some .int) :: U
def wsX11_fewest : List Cond := .code yX11_fewest cX11_fewest 3 (some .int) :: U
def wsX11_takesBy : List Cond := .code yX11_takesBy cX11_takesBy 2 (some .int) :: U
def wsX11_saving : List Cond := .code yX11_saving cX11_saving 4 (some .int) :: U
def wsX11_cheapest : List Cond := .code yX11_cheapest cX11_cheapest 5 (some .int) :: U
def wsX11_wrongRow : List Cond := .code yX11_wrongRow cX11_wrongRow 5 (some .int) :: U
def wsX11_laysRow : List Cond := .code yX11_laysRow cX11_laysRow 4 none :: U
def wsX11_reads : List Cond := .code yX11_reads cX11_reads 5 (some .boolean) :: U
def wsX11_countsWays : List Cond := .code yX11_countsWays cX11_countsWays 5 (some .int) :: U
def wsX11_ways : List Cond := .code yX11_ways cX11_ways 4 (some .int) :: U
def wsX11_first : List Cond := .code yX11_first cX11_first 6 (some .int) :: U
def wsX11_firstAt : List Cond := .code yX11_firstAt cX11_firstAt 2 (some .int) :: U
def wsX11_letters : List Cond := .code yX11_letters cX11_letters 1 (some .int) :: U
def wsX11_isTrue : List Cond := .code yX11_isTrue cX11_isTrue 7 (some .boolean) :: U
def wsX11_truths : List Cond := .code yX11_truths cX11_truths 8 (some .int) :: U
def wsX11_failed : List Cond := .code yX11_failed cX11_failed 6 (some .int) :: U
def wsX11_mirror : List Cond := .code yX11_mirror cX11_mirror 2 (some .int) :: U
def wsX11_mirrorOf : List Cond := .code yX11_mirrorOf cX11_mirrorOf 1 (some .int) :: U
def wsX11_isMirror : List Cond := .code yX11_isMirror cX11_isMirror 4 (some .boolean) :: U
def wsX11_turned : List Cond := .code yX11_turned cX11_turned 3 (some .int) :: U
def wsX11_twins : List Cond := .code yX11_twins cX11_twins 4 (some .int) :: U
def wsX11_near : List Cond := .code yX11_near cX11_near 5 (some .int) :: U
def wsX11_doClash : List Cond := .code yX11_doClash cX11_doClash 4 (some .boolean) :: U
def wsX11_clash : List Cond := .code yX11_clash cX11_clash 3 (some .int) :: U
def wsX11_areIn : List Cond := .code yX11_areIn cX11_areIn 3 (some .boolean) :: U
def wsX11_clashes : List Cond := .code yX11_clashes cX11_clashes 4 (some .int) :: U
def wsX11_overOf : List Cond := .code yX11_overOf cX11_overOf 4 (some .int) :: U
def wsX11_sizeOf : List Cond := .code yX11_sizeOf cX11_sizeOf 1 (some .int) :: U
def wsX11_cellIn : List Cond := .code yX11_cellIn cX11_cellIn 2 (some .int) :: U
def wsX11_comesTo : List Cond := .code yX11_comesTo cX11_comesTo 3 (some .boolean) :: U
def wsX11_goesOn : List Cond := .code yX11_goesOn cX11_goesOn 6 (some .boolean) :: U
def wsX11_twinOf : List Cond := .code yX11_twinOf cX11_twinOf 4 (some .int) :: U
def wsX11_clear : List Cond := .code yX11_clear cX11_clear 1 (some .int) :: U
def wsX11_twin : List Cond := .code yX11_twin cX11_twin 2 (some .int) :: U
def wsX11_lacks : List Cond := .code yX11_lacks cX11_lacks 3 (some .int) :: U
def wsX11_draw : List Cond := .code yX11_draw cX11_draw 1 (some .int) :: U
def wsX11_wears : List Cond := .code yX11_wears cX11_wears 6 (some .int) :: U
def wsX11_worn : List Cond := .code yX11_worn cX11_worn 5 (some .int) :: U
def wsX11_wornAt : List Cond := .code yX11_wornAt cX11_wornAt 2 (some .int) :: U
def wsX11_odds : List Cond := .code yX11_odds cX11_odds 9 (some .boolean) :: U
def wsX11_copies : List Cond := .code yX11_copies cX11_copies 4 none :: U
def wsX11_mark : List Cond := .code yX11_mark cX11_mark 1 (some .int) :: U
def wsX11_back : List Cond := .code yX11_back cX11_back 1 (some .int) :: U
def wsJ6_bitCount_0f7a4 : List Cond := .code yJ6_bitCount_0f7a4 cJ6_bitCount_0f7a4 1 (some .int) :: U
def wsJ9_max_7cf53 : List Cond := .code yJ9_max_7cf53 cJ9_max_7cf53 2 (some .int) :: U
def wsJ9_min_7cf53 : List Cond := .code yJ9_min_7cf53 cJ9_min_7cf53 2 (some .int) :: U
def wsJ0_length_8abf5 : List Cond := .code yJ0_length_8abf5 cJ0_length_8abf5 1 (some .int) :: U
def wsJ0_charAt_5068e : List Cond := .code yJ0_charAt_5068e cJ0_charAt_5068e 2 (some .char) :: U
def wsJ0_coder_7d493 : List Cond := .code yJ0_coder_7d493 cJ0_coder_7d493 1 (some .byte) :: U
def wsJ0_isLatin1_aae02 : List Cond := .code yJ0_isLatin1_aae02 cJ0_isLatin1_aae02 1 (some .boolean) :: U
def wsJ0_checkIndex_df160 : List Cond := .code yJ0_checkIndex_df160 cJ0_checkIndex_df160 2 none :: U
def wsJ1_charAt_3b067 : List Cond := .code yJ1_charAt_3b067 cJ1_charAt_3b067 2 (some .char) :: U
def wsJ2_getChar_3b067 : List Cond := .code yJ2_getChar_3b067 cJ2_getChar_3b067 2 (some .char) :: U
def wsJ2_length_9d52b : List Cond := .code yJ2_length_9d52b cJ2_length_9d52b 1 (some .int) :: U
def wsJ2_charAt_3b067 : List Cond := .code yJ2_charAt_3b067 cJ2_charAt_3b067 2 (some .char) :: U
def wsJ2_checkIndex_2214a : List Cond := .code yJ2_checkIndex_2214a cJ2_checkIndex_2214a 2 none :: U
def wsJ3_checkIndex_8e157 : List Cond := .code yJ3_checkIndex_8e157 cJ3_checkIndex_8e157 3 (some .int) :: U
def nestM : List (String × Nat × MethodName × String) := [(RX10, 112, yX2_init, "RaisedPress"), (RX10, 42, yX3_init, "RaisedPress"), (RX10, 56, yX5_init, "RaisedPress"), (RX10, 67, yX6_init, "RaisedPress"), (RX10, 77, yX1_init, "RaisedPress"), (RX10, 84, yX4_init, "RaisedPress"), (RX10, 91, yX0_init, "RaisedPress"), (RX10, 98, yX9_init, "RaisedPress"), (RX2, 18, yX5_init, "RaisedPress"), (RX3, 132, yX10_letterOf, "RaisedPress"), (RX3, 57, yX10_isBlank, "RaisedPress"), (RX3, 61, yX10_isSmall, "RaisedPress"), (RX3, 64, yX10_isDigit, "RaisedPress"), (RX5, 34, yX10_isGreat, "RaisedPress"), (RX5, 38, yX10_isDigit, "RaisedPress"), (RX5, 41, yX10_isLetter, "RaisedPress"), (RX5, 47, yX10_letterOf, "RaisedPress"), (RX5, 54, yX10_wordEnd, "RaisedPress"), (RX6, 103, yX10_isGreat, "RaisedPress"), (RX6, 47, yX10_isBlank, "RaisedPress"), (RX6, 55, yX10_isDigit, "RaisedPress"), (RX6, 62, yX10_isLetter, "RaisedPress"), (RX6, 81, yX10_letterOfDigit, "RaisedPress"), (RX6, 95, yX10_wordEnd, "RaisedPress"), (RX7, 51, yX10_letterOf, "RaisedPress"), (RX7, 55, yX10_isGreat, "RaisedPress"), (RX7, 74, yX10_mirrorOf, "RaisedPress")]
theorem nm_in_RX10_112 : (RX10, 112, yX2_init, "RaisedPress") ∈ nestM := List.mem_of_getElem? (i := 0) rfl
theorem nm_in_RX10_42 : (RX10, 42, yX3_init, "RaisedPress") ∈ nestM := List.mem_of_getElem? (i := 1) rfl
theorem nm_in_RX10_56 : (RX10, 56, yX5_init, "RaisedPress") ∈ nestM := List.mem_of_getElem? (i := 2) rfl
theorem nm_in_RX10_67 : (RX10, 67, yX6_init, "RaisedPress") ∈ nestM := List.mem_of_getElem? (i := 3) rfl
theorem nm_in_RX10_77 : (RX10, 77, yX1_init, "RaisedPress") ∈ nestM := List.mem_of_getElem? (i := 4) rfl
theorem nm_in_RX10_84 : (RX10, 84, yX4_init, "RaisedPress") ∈ nestM := List.mem_of_getElem? (i := 5) rfl
theorem nm_in_RX10_91 : (RX10, 91, yX0_init, "RaisedPress") ∈ nestM := List.mem_of_getElem? (i := 6) rfl
theorem nm_in_RX10_98 : (RX10, 98, yX9_init, "RaisedPress") ∈ nestM := List.mem_of_getElem? (i := 7) rfl
theorem nm_in_RX2_18 : (RX2, 18, yX5_init, "RaisedPress") ∈ nestM := List.mem_of_getElem? (i := 8) rfl
theorem nm_in_RX3_132 : (RX3, 132, yX10_letterOf, "RaisedPress") ∈ nestM := List.mem_of_getElem? (i := 9) rfl
theorem nm_in_RX3_57 : (RX3, 57, yX10_isBlank, "RaisedPress") ∈ nestM := List.mem_of_getElem? (i := 10) rfl
theorem nm_in_RX3_61 : (RX3, 61, yX10_isSmall, "RaisedPress") ∈ nestM := List.mem_of_getElem? (i := 11) rfl
theorem nm_in_RX3_64 : (RX3, 64, yX10_isDigit, "RaisedPress") ∈ nestM := List.mem_of_getElem? (i := 12) rfl
theorem nm_in_RX5_34 : (RX5, 34, yX10_isGreat, "RaisedPress") ∈ nestM := List.mem_of_getElem? (i := 13) rfl
theorem nm_in_RX5_38 : (RX5, 38, yX10_isDigit, "RaisedPress") ∈ nestM := List.mem_of_getElem? (i := 14) rfl
theorem nm_in_RX5_41 : (RX5, 41, yX10_isLetter, "RaisedPress") ∈ nestM := List.mem_of_getElem? (i := 15) rfl
theorem nm_in_RX5_47 : (RX5, 47, yX10_letterOf, "RaisedPress") ∈ nestM := List.mem_of_getElem? (i := 16) rfl
theorem nm_in_RX5_54 : (RX5, 54, yX10_wordEnd, "RaisedPress") ∈ nestM := List.mem_of_getElem? (i := 17) rfl
theorem nm_in_RX6_103 : (RX6, 103, yX10_isGreat, "RaisedPress") ∈ nestM := List.mem_of_getElem? (i := 18) rfl
theorem nm_in_RX6_47 : (RX6, 47, yX10_isBlank, "RaisedPress") ∈ nestM := List.mem_of_getElem? (i := 19) rfl
theorem nm_in_RX6_55 : (RX6, 55, yX10_isDigit, "RaisedPress") ∈ nestM := List.mem_of_getElem? (i := 20) rfl
theorem nm_in_RX6_62 : (RX6, 62, yX10_isLetter, "RaisedPress") ∈ nestM := List.mem_of_getElem? (i := 21) rfl
theorem nm_in_RX6_81 : (RX6, 81, yX10_letterOfDigit, "RaisedPress") ∈ nestM := List.mem_of_getElem? (i := 22) rfl
theorem nm_in_RX6_95 : (RX6, 95, yX10_wordEnd, "RaisedPress") ∈ nestM := List.mem_of_getElem? (i := 23) rfl
theorem nm_in_RX7_51 : (RX7, 51, yX10_letterOf, "RaisedPress") ∈ nestM := List.mem_of_getElem? (i := 24) rfl
theorem nm_in_RX7_55 : (RX7, 55, yX10_isGreat, "RaisedPress") ∈ nestM := List.mem_of_getElem? (i := 25) rfl
theorem nm_in_RX7_74 : (RX7, 74, yX10_mirrorOf, "RaisedPress") ∈ nestM := List.mem_of_getElem? (i := 26) rfl
/-! THE LAYER: contracts of three forms (Pur: nothing is written; Eff: the world changes), their start, end and calls -/
theorem gU {big : List Cond} (hU : ∀ w ∈ U, w ∈ big) {y : MethodName} {c : ByteArray} {n : Nat} {r : Option FieldType} (h : Cond.code y c n r ∈ U) : GoodIn big (Cond.code y c n r :: U) := fun w hw => by
  have h1 : w ∈ U := by
    rcases List.mem_cons.mp hw with rfl | h2
    · exact h
    · exact h2
  exact ⟨hU w h1, good_of_word (List.all_eq_true.mp U_good w h1)⟩
theorem gW {w : Cond} (h : w ∈ U) : (w.onTables && w.keeps) = true ∨ ∃ ty, w = .arrayClass ty := good_of_word (List.all_eq_true.mp U_good w h)
theorem gUV {big : List Cond} (hU : ∀ w ∈ U, w ∈ big) {own C : String} {idx : Nat} {y : MethodName} {c : ByteArray} {n : Nat} {r : Option FieldType} (hm : Cond.methodLink own idx y ∈ U) (hi : Cond.instanceMethod y ∈ U) (hs : Cond.selects C y y ∈ U) (hn : Cond.initialized C ∈ U) (h : Cond.code y c n r ∈ U) : GoodIn big (wsV own idx C y (Cond.code y c n r :: U)) := by
  refine goodIn_app (fun w hw => ?_) (gU hU h)
  rcases List.mem_cons.mp hw with rfl | hw
  · exact ⟨hU _ hm, gW hm⟩
  rcases List.mem_cons.mp hw with rfl | hw
  · exact ⟨hU _ hi, gW hi⟩
  rcases List.mem_cons.mp hw with rfl | hw
  · exact ⟨hU _ hs, gW hs⟩
  rcases List.mem_cons.mp hw with rfl | hw
  · exact ⟨hU _ hn, gW hn⟩
  cases hw
theorem gUS {big : List Cond} (hU : ∀ w ∈ U, w ∈ big) {own : String} {idx : Nat} {y : MethodName} {c : ByteArray} {n : Nat} {r : Option FieldType} (hm : Cond.methodLink own idx y ∈ U) (hi : Cond.static y ∈ U) (hn : Cond.initialized y.cls ∈ U) (h : Cond.code y c n r ∈ U) : GoodIn big (va_wsS own idx y (Cond.code y c n r :: U)) := by
  refine goodIn_app (fun w hw => ?_) (gU hU h)
  rcases List.mem_cons.mp hw with rfl | hw
  · exact ⟨hU _ hm, gW hm⟩
  rcases List.mem_cons.mp hw with rfl | hw
  · exact ⟨hU _ hi, gW hi⟩
  rcases List.mem_cons.mp hw with rfl | hw
  · exact ⟨hU _ hn, gW hn⟩
  cases hw
theorem uT (x : Cond) : ∀ w ∈ U, w ∈ x :: U := fun _ h => List.mem_cons_of_mem _ h
abbrev gG : Type := va_G × ClassId × ClassId × ClassId × ClassId
abbrev gT (g : gG) : List (ClassId × FieldType) := [(g.2.1, .int), (g.2.2.1, .long), (g.2.2.2.1, .byte), (g.2.2.2.2, .object "RaisedPress$Mark")]
def nestOk (w : Cond) (s : State) : Prop := va_Nw w s
def gK (g : gG) (U : State) : Prop := va_K g.1 vwCl (gT g) U ∧ (∀ q ∈ nestM, va_Nw (.methodLinkNest q.1 q.2.1 q.2.2.1 q.2.2.2) U) ∧ va_AO "RaisedPress$Mark" U
theorem gK.warm {g : gG} {s U : State} (hW : s.WarmedH U.vm) (h : gK g s) : gK g U := ⟨va_K.moved hW.alike h.1, fun q hq => va_Nw.warmM hW (h.2.1 q hq), h.2.2.moved hW.alike⟩
theorem gK.same {g : gG} {u U : State} (hv : u.vm = U.vm) (h : gK g u) : gK g U := ⟨va_K.moved (hv ▸ Vm.Alike.refl u.vm) h.1, fun q hq => va_Nw.same rfl hv (h.2.1 q hq), h.2.2.moved (hv ▸ Vm.Alike.refl u.vm)⟩
abbrev rm (d : Nat) : Room := { frames := d, cells := 0, slots := 0, locals := 40 * d }
def PurB (g : gG) (w0 : va_W) (U : State) : Prop := va_P g.1 vwCl w0 U.heap ∧ gK g U
def EffB (g : gG) (w0 : va_W) (sz : Nat) (U : State) : Prop := U.heap.size = sz ∧ va_P g.1 vwCl w0 U.heap ∧ gK g U ∧ va_D (fun _ => True) w0
def PurI (l : Launch) (g : gG) (y : MethodName) (ws : List Cond) (d : Nat) (av : List Value) (w0 : va_W) (post : Int32 → Prop) : Prop :=
  Met l y ws (rm d) (va_Pc av (PurB g w0)) (vp_Si post) 0 0 (fun _ => False)
def PurL (l : Launch) (g : gG) (y : MethodName) (ws : List Cond) (d : Nat) (av : List Value) (w0 : va_W) (post : Int64 → Prop) : Prop :=
  Met l y ws (rm d) (va_Pc av (PurB g w0)) (vp_Sl post) 0 0 (fun _ => False)
def EffI (l : Launch) (g : gG) (y : MethodName) (ws : List Cond) (d : Nat) (av : List Value) (w0 : va_W) {S : Type} (w1 : S → va_W) (post : Int32 → S → Prop) : Prop :=
  ∀ sz, Met l y ws (rm d) (va_Pc av (EffB g w0 sz)) (va_Qi post (fun u t => va_P g.1 vwCl (w1 u) t.heap ∧ va_D (va_A w0 sz) (w1 u)) (va_A w0 sz)) 0 0 (va_A w0 sz)
def EffL (l : Launch) (g : gG) (y : MethodName) (ws : List Cond) (d : Nat) (av : List Value) (w0 : va_W) {S : Type} (w1 : S → va_W) (post : Int64 → S → Prop) : Prop :=
  ∀ sz, Met l y ws (rm d) (va_Pc av (EffB g w0 sz)) (va_Ql post (fun u t => va_P g.1 vwCl (w1 u) t.heap ∧ va_D (va_A w0 sz) (w1 u)) (va_A w0 sz)) 0 0 (va_A w0 sz)
def EffV (l : Launch) (g : gG) (y : MethodName) (ws : List Cond) (d : Nat) (av : List Value) (w0 : va_W) {S : Type} (w1 : S → va_W) (post : S → Prop) : Prop :=
  ∀ sz, Met l y ws (rm d) (va_Pc av (EffB g w0 sz)) (va_Qv post (fun u t => va_P g.1 vwCl (w1 u) t.heap ∧ va_D (va_A w0 sz) (w1 u)) (va_A w0 sz)) 0 0 (va_A w0 sz)
theorem PurB.blind {g : gG} {w0 : va_W} {av : List Value} : FrameBlind (va_Pc av (PurB g w0)) := fun a U f mk q => by
  obtain ⟨q0, q1, q2⟩ := q
  exact ⟨q0, q1, gK.same rfl q2⟩
theorem EffB.blind {g : gG} {w0 : va_W} {av : List Value} {sz : Nat} : FrameBlind (va_Pc av (EffB g w0 sz)) := fun a U f mk q => by
  obtain ⟨q0, q1, q2, q3, q4⟩ := q
  exact ⟨q0, q1, q2, gK.same rfl q3, q4⟩
section Starts
variable {l : Launch} {g : gG} {y : MethodName} {ws ws' : List Cond} {d : Nat} {av : List Value} {w0 : va_W} {cc : ByteArray} {maxL : Nat}
theorem PurI.st {post : Int32 → Prop} (hy : plainName y.cls = true) (hw : ws = Cond.code y cc maxL (some .int) :: ws') (hlen : (lg_sl av).length ≤ maxL)
    (body : ∀ (p : Program) (e : Env) (s : State) (m : MethodId) (args : Array Value) (below : List Frame) (meth : Method) (c : Code) (Q : State → Prop) (ls : Array Slot), CallFix p m c cc maxL s args ws y.cls → gK g s → va_P g.1 vwCl w0 s.heap → lv_has ls maxL (lv_args 0 av) →
      (∀ (pc : Nat) (ls : Array Slot) (v : Int32), decode cc pc = .ok (.ireturn, 1) → post v → W p l e (rm d) s m args below meth c s.heap [] 0 0 Q (F0 m pc ls [.int v])) →
      W p l e (rm d) s m args below meth c s.heap [] 0 0 Q (F0 m 0 ls [])) : PurI l g y ws d av w0 post := by
  refine Met.ofW (cc := cc) (maxL := maxL) (ret := some .int) hy hw ?_
  intro p e s m args below meth c s₁ B hml hv
  obtain ⟨hav, hP, hK⟩ := hv
  rw [hav, lg_entry_eq, ← hav]
  have hr := B.returns
  have hlk := B.notSynchronized
  exact body p e s m args below meth c _ _ ⟨B.exec, B.bytes, hml, findClass_of_methodNamed B.named, atoms_spec (ws := ws) B.pre⟩ hK hP (lv_entry av hlen)
    (fun pc ls v hdg hp => W.iret B.exec B.bytes hr (fun t ht _ => ⟨v, rfl, hp, ht⟩) (fun _ h => by cases h) hdg hlk)
theorem PurI.sz {post : Int32 → Prop} (hy : plainName y.cls = true) (hw : ws = Cond.code y cc maxL (some .boolean) :: ws') (hlen : (lg_sl av).length ≤ maxL)
    (body : ∀ (p : Program) (e : Env) (s : State) (m : MethodId) (args : Array Value) (below : List Frame) (meth : Method) (c : Code) (Q : State → Prop) (ls : Array Slot), CallFix p m c cc maxL s args ws y.cls → gK g s → va_P g.1 vwCl w0 s.heap → lv_has ls maxL (lv_args 0 av) →
      (∀ (pc : Nat) (ls : Array Slot) (v : Int32), decode cc pc = .ok (.ireturn, 1) → (v = 0 ∨ v = 1) → post v → W p l e (rm d) s m args below meth c s.heap [] 0 0 Q (F0 m pc ls [.int v])) →
      W p l e (rm d) s m args below meth c s.heap [] 0 0 Q (F0 m 0 ls [])) : PurI l g y ws d av w0 post := by
  refine Met.ofW (cc := cc) (maxL := maxL) (ret := some .boolean) hy hw ?_
  intro p e s m args below meth c s₁ B hml hv
  obtain ⟨hav, hP, hK⟩ := hv
  rw [hav, lg_entry_eq, ← hav]
  have hr := B.returns
  have hlk := B.notSynchronized
  exact body p e s m args below meth c _ _ ⟨B.exec, B.bytes, hml, findClass_of_methodNamed B.named, atoms_spec (ws := ws) B.pre⟩ hK hP (lv_entry av hlen)
    (fun pc ls v hdg hz hp => W.zret B.exec B.bytes hr (by rcases hz with rfl | rfl <;> rfl) (fun t ht _ => ⟨v, rfl, hp, ht⟩) (fun _ h => by cases h) hdg hlk)
theorem PurL.st {post : Int64 → Prop} (hy : plainName y.cls = true) (hw : ws = Cond.code y cc maxL (some .long) :: ws') (hlen : (lg_sl av).length ≤ maxL)
    (body : ∀ (p : Program) (e : Env) (s : State) (m : MethodId) (args : Array Value) (below : List Frame) (meth : Method) (c : Code) (Q : State → Prop) (ls : Array Slot), CallFix p m c cc maxL s args ws y.cls → gK g s → va_P g.1 vwCl w0 s.heap → lv_has ls maxL (lv_args 0 av) →
      (∀ (pc : Nat) (ls : Array Slot) (v : Int64), decode cc pc = .ok (.lreturn, 1) → post v → W p l e (rm d) s m args below meth c s.heap [] 0 0 Q (F0 m pc ls [.long v])) →
      W p l e (rm d) s m args below meth c s.heap [] 0 0 Q (F0 m 0 ls [])) : PurL l g y ws d av w0 post := by
  refine Met.ofW (cc := cc) (maxL := maxL) (ret := some .long) hy hw ?_
  intro p e s m args below meth c s₁ B hml hv
  obtain ⟨hav, hP, hK⟩ := hv
  rw [hav, lg_entry_eq, ← hav]
  have hr := B.returns
  have hlk := B.notSynchronized
  exact body p e s m args below meth c _ _ ⟨B.exec, B.bytes, hml, findClass_of_methodNamed B.named, atoms_spec (ws := ws) B.pre⟩ hK hP (lv_entry av hlen)
    (fun pc ls v hdg hp => W.lret B.exec B.bytes hr (fun t ht _ => ⟨v, rfl, hp, ht⟩) (fun _ h => by cases h) hdg hlk)
theorem EffI.st {S : Type} {w1 : S → va_W} {post : Int32 → S → Prop} (hy : plainName y.cls = true) (hw : ws = Cond.code y cc maxL (some .int) :: ws') (hlen : (lg_sl av).length ≤ maxL)
    (body : ∀ (p : Program) (e : Env) (s : State) (m : MethodId) (args : Array Value) (below : List Frame) (meth : Method) (c : Code) (A : Nat → Prop) (Q : State → Prop) (ls : Array Slot), CallFix p m c cc maxL s args ws y.cls → gK g s → va_P g.1 vwCl w0 s.heap → va_D A w0 → (∀ q : Nat, s.heap.size ≤ q → A q) → va_S A s.heap s.heap [] → lv_has ls maxL (lv_args 0 av) →
      (∀ (pc : Nat) (ls : Array Slot) (v : Int32) (H : Heap) (locs : List Loc) (u : S), decode cc pc = .ok (.ireturn, 1) → va_S A s.heap H locs → va_P g.1 vwCl (w1 u) H → va_D A (w1 u) → post v u → W p l e (rm d) s m args below meth c H locs 0 0 Q (F0 m pc ls [.int v])) →
      W p l e (rm d) s m args below meth c s.heap [] 0 0 Q (F0 m 0 ls [])) : EffI l g y ws d av w0 w1 post := by
  intro sz
  refine Met.ofW (cc := cc) (maxL := maxL) (ret := some .int) hy hw ?_
  intro p e s m args below meth c s₁ B hml hv
  obtain ⟨hav, hsz, hP, hK, hD0⟩ := hv
  subst hsz
  rw [hav, lg_entry_eq, ← hav]
  have hr := B.returns
  have hlk := B.notSynchronized
  exact body p e s m args below meth c (va_A w0 s.heap.size) _ _ ⟨B.exec, B.bytes, hml, findClass_of_methodNamed B.named, atoms_spec (ws := ws) B.pre⟩ hK hP (hD0.self (sz := s.heap.size)) (fun q h => Or.inr h) va_S.rf (lv_entry av hlen)
    (fun pc ls v H locs u hdg hS hP hD hp => W.iret B.exec B.bytes hr (fun t ht _ => ⟨⟨v, u, rfl, hp, by rw [ht]; exact hP, hD⟩, hS.F ht⟩) hS.2.2 hdg hlk)
theorem EffI.sz {S : Type} {w1 : S → va_W} {post : Int32 → S → Prop} (hy : plainName y.cls = true) (hw : ws = Cond.code y cc maxL (some .boolean) :: ws') (hlen : (lg_sl av).length ≤ maxL)
    (body : ∀ (p : Program) (e : Env) (s : State) (m : MethodId) (args : Array Value) (below : List Frame) (meth : Method) (c : Code) (A : Nat → Prop) (Q : State → Prop) (ls : Array Slot), CallFix p m c cc maxL s args ws y.cls → gK g s → va_P g.1 vwCl w0 s.heap → va_D A w0 → (∀ q : Nat, s.heap.size ≤ q → A q) → va_S A s.heap s.heap [] → lv_has ls maxL (lv_args 0 av) →
      (∀ (pc : Nat) (ls : Array Slot) (v : Int32) (H : Heap) (locs : List Loc) (u : S), decode cc pc = .ok (.ireturn, 1) → (v = 0 ∨ v = 1) → va_S A s.heap H locs → va_P g.1 vwCl (w1 u) H → va_D A (w1 u) → post v u → W p l e (rm d) s m args below meth c H locs 0 0 Q (F0 m pc ls [.int v])) →
      W p l e (rm d) s m args below meth c s.heap [] 0 0 Q (F0 m 0 ls [])) : EffI l g y ws d av w0 w1 post := by
  intro sz
  refine Met.ofW (cc := cc) (maxL := maxL) (ret := some .boolean) hy hw ?_
  intro p e s m args below meth c s₁ B hml hv
  obtain ⟨hav, hsz, hP, hK, hD0⟩ := hv
  subst hsz
  rw [hav, lg_entry_eq, ← hav]
  have hr := B.returns
  have hlk := B.notSynchronized
  exact body p e s m args below meth c (va_A w0 s.heap.size) _ _ ⟨B.exec, B.bytes, hml, findClass_of_methodNamed B.named, atoms_spec (ws := ws) B.pre⟩ hK hP (hD0.self (sz := s.heap.size)) (fun q h => Or.inr h) va_S.rf (lv_entry av hlen)
    (fun pc ls v H locs u hdg hz hS hP hD hp => W.zret B.exec B.bytes hr (by rcases hz with rfl | rfl <;> rfl) (fun t ht _ => ⟨⟨v, u, rfl, hp, by rw [ht]; exact hP, hD⟩, hS.F ht⟩) hS.2.2 hdg hlk)
theorem EffL.st {S : Type} {w1 : S → va_W} {post : Int64 → S → Prop} (hy : plainName y.cls = true) (hw : ws = Cond.code y cc maxL (some .long) :: ws') (hlen : (lg_sl av).length ≤ maxL)
    (body : ∀ (p : Program) (e : Env) (s : State) (m : MethodId) (args : Array Value) (below : List Frame) (meth : Method) (c : Code) (A : Nat → Prop) (Q : State → Prop) (ls : Array Slot), CallFix p m c cc maxL s args ws y.cls → gK g s → va_P g.1 vwCl w0 s.heap → va_D A w0 → (∀ q : Nat, s.heap.size ≤ q → A q) → va_S A s.heap s.heap [] → lv_has ls maxL (lv_args 0 av) →
      (∀ (pc : Nat) (ls : Array Slot) (v : Int64) (H : Heap) (locs : List Loc) (u : S), decode cc pc = .ok (.lreturn, 1) → va_S A s.heap H locs → va_P g.1 vwCl (w1 u) H → va_D A (w1 u) → post v u → W p l e (rm d) s m args below meth c H locs 0 0 Q (F0 m pc ls [.long v])) →
      W p l e (rm d) s m args below meth c s.heap [] 0 0 Q (F0 m 0 ls [])) : EffL l g y ws d av w0 w1 post := by
  intro sz
  refine Met.ofW (cc := cc) (maxL := maxL) (ret := some .long) hy hw ?_
  intro p e s m args below meth c s₁ B hml hv
  obtain ⟨hav, hsz, hP, hK, hD0⟩ := hv
  subst hsz
  rw [hav, lg_entry_eq, ← hav]
  have hr := B.returns
  have hlk := B.notSynchronized
  exact body p e s m args below meth c (va_A w0 s.heap.size) _ _ ⟨B.exec, B.bytes, hml, findClass_of_methodNamed B.named, atoms_spec (ws := ws) B.pre⟩ hK hP (hD0.self (sz := s.heap.size)) (fun q h => Or.inr h) va_S.rf (lv_entry av hlen)
    (fun pc ls v H locs u hdg hS hP hD hp => W.lret B.exec B.bytes hr (fun t ht _ => ⟨⟨v, u, rfl, hp, by rw [ht]; exact hP, hD⟩, hS.F ht⟩) hS.2.2 hdg hlk)
theorem EffV.st {S : Type} {w1 : S → va_W} {post : S → Prop} (hy : plainName y.cls = true) (hw : ws = Cond.code y cc maxL (none) :: ws') (hlen : (lg_sl av).length ≤ maxL)
    (body : ∀ (p : Program) (e : Env) (s : State) (m : MethodId) (args : Array Value) (below : List Frame) (meth : Method) (c : Code) (A : Nat → Prop) (Q : State → Prop) (ls : Array Slot), CallFix p m c cc maxL s args ws y.cls → gK g s → va_P g.1 vwCl w0 s.heap → va_D A w0 → (∀ q : Nat, s.heap.size ≤ q → A q) → va_S A s.heap s.heap [] → lv_has ls maxL (lv_args 0 av) →
      (∀ (pc : Nat) (ls : Array Slot) (H : Heap) (locs : List Loc) (u : S), decode cc pc = .ok (.return_, 1) → va_S A s.heap H locs → va_P g.1 vwCl (w1 u) H → va_D A (w1 u) → post u → W p l e (rm d) s m args below meth c H locs 0 0 Q (F0 m pc ls [])) →
      W p l e (rm d) s m args below meth c s.heap [] 0 0 Q (F0 m 0 ls [])) : EffV l g y ws d av w0 w1 post := by
  intro sz
  refine Met.ofW (cc := cc) (maxL := maxL) (ret := none) hy hw ?_
  intro p e s m args below meth c s₁ B hml hv
  obtain ⟨hav, hsz, hP, hK, hD0⟩ := hv
  subst hsz
  rw [hav, lg_entry_eq, ← hav]
  have hr := B.returns
  have hlk := B.notSynchronized
  exact body p e s m args below meth c (va_A w0 s.heap.size) _ _ ⟨B.exec, B.bytes, hml, findClass_of_methodNamed B.named, atoms_spec (ws := ws) B.pre⟩ hK hP (hD0.self (sz := s.heap.size)) (fun q h => Or.inr h) va_S.rf (lv_entry av hlen)
    (fun pc ls H locs u hdg hS hP hD hp => W.vret B.exec B.bytes hr (fun t ht _ => ⟨⟨u, rfl, hp, by rw [ht]; exact hP, hD⟩, hS.F ht⟩) hS.2.2 hdg hlk)
end Starts
section Calls
variable {p : Program} {l : Launch} {e : Env} {R : Room} {s : State} {m : MethodId} {args : Array Value} {below : List Frame} {meth : Method} {c : Code} {H : Heap} {locs : List Loc} {Q : State → Prop} {g : gG} {cc bytes : ByteArray} {A : Nat → Prop} {H0 : Heap} {pc nL maxL n index d : Nat} {ls : Array Slot} {rest st0 As : List Value} {Ts ws ws' : List Cond} {own C : String} {y : MethodName} {ret : Option FieldType} {b : Addr} {w0 wc wr : va_W}
theorem locs_nil {locs L : List Loc} (h : ∀ q ∈ L, (fun _ : Nat => False) q.base) : locs ++ L = locs := by
  cases L with
  | nil => exact List.append_nil _
  | cons a t => exact (h a List.mem_cons_self).elim
/-- behind a call that writes nothing -/
theorem run_pi {post : Int32 → Prop} {a : Array Value} (hr : va_Run p l e R s m args below meth c H locs 0 0 0 0 (F0 m pc ls st0) rest (vp_Si post a) (fun _ => False))
    (kk : ∀ r : Int32, post r → W p l e R s m args below meth c H locs 0 0 Q (F0 m (pc + 3) ls (.int r :: rest))) : W p l e R s m args below meth c H locs 0 0 Q (F0 m pc ls st0) := by
  intro T hT X
  obtain ⟨v, st₀, t, T', L, h0, X', hL, e1, e2, ⟨r, hv, hp, hh⟩, st⟩ := hr T hT X
  cases hv
  rw [locs_nil hL] at X'
  obtain ⟨t2, a1, b1⟩ := kk r hp T' (by rw [e1, hh, h0]) X'
  exact ⟨t2, st t2 a1, b1⟩
theorem run_pl {post : Int64 → Prop} {a : Array Value} (hr : va_Run p l e R s m args below meth c H locs 0 0 0 0 (F0 m pc ls st0) rest (vp_Sl post a) (fun _ => False))
    (kk : ∀ r : Int64, post r → W p l e R s m args below meth c H locs 0 0 Q (F0 m (pc + 3) ls (.long r :: rest))) : W p l e R s m args below meth c H locs 0 0 Q (F0 m pc ls st0) := by
  intro T hT X
  obtain ⟨v, st₀, t, T', L, h0, X', hL, e1, e2, ⟨r, hv, hp, hh⟩, st⟩ := hr T hT X
  cases hv
  rw [locs_nil hL] at X'
  obtain ⟨t2, a1, b1⟩ := kk r hp T' (by rw [e1, hh, h0]) X'
  exact ⟨t2, st t2 a1, b1⟩
def hdV (y : MethodName) (C : String) (n : Nat) : Prop := y.cls = C ∧ y.cls ≠ "java/lang/invoke/MethodHandle" ∧ y.cls ≠ "java/lang/invoke/VarHandle" ∧ (parseMethodDescriptor y.desc).map (fun d => d.parameters.length) = some n
def roomOk (d maxL : Nat) (R : Room) : Prop := d + 1 ≤ R.frames ∧ 8 + (maxL + 11) + 40 * d ≤ R.locals
/-- what a call of a method of an object stands on -/
theorem gr_recv {ci : Nat} {q : vw_C} {fs : List Value} {w : va_W} (hK : gK g s) (hP : va_P g.1 vwCl w H) (hc : vwCl[ci]? = some q) (hq : w[0]? = some (b, .inr (ci, fs))) : ∃ cell : Cell, H[b]? = some cell ∧ cell.vm.isStatics = false ∧ s.vm.findClass q.1 = some cell.cls := va_recv hK.1 hP hc hq
variable {ci N : Nat} {T : u_T} {fs : List Value}
theorem PurI.cv {post : Int32 → Prop} (hM : PurI l g y ws d (.ref b :: As) w0 post) (fx : CallFix p m c cc nL s args Ts own) (hG : GoodIn Ts (wsV own index C y ws)) (hw : ws = Cond.code y bytes maxL ret :: ws') (hd : hdV y C n) (hR : roomOk d maxL R)
    (hK : gK g s) (hP : va_P g.1 vwCl wc H) (isC : List Nat) (hC : isC.filterMap (fun i => wc[i]?) = w0) (hq : w0[0]? = some (b, .inr (ci, fs))) (hc : vwCl[ci]? = some (C, T, N))
    (hst : st0 = As.reverse ++ .ref b :: rest) (hn : As.length = n) (hsz : ls.size = nL) (hcat : (rest.map fun v => v.category).sum ≤ 8) (hdg : decode cc pc = .ok (.invokevirtual index, 3))
    (kk : ∀ r : Int32, post r → W p l e R s m args below meth c H locs 0 0 Q (F0 m (pc + 3) ls (.int r :: rest))) : W p l e R s m args below meth c H locs 0 0 Q (F0 m pc ls st0) := by
  have hP0 := hP.sub (ws' := w0) isC hC
  refine run_pi (va_runV fx hM (cwV n fx.2.2.2.2 hG hw rfl rfl hd hR) ⟨PurB.blind, gr_recv hK hP0 hc hq, fun U hU hW => ⟨rfl, by rw [hU]; exact hP0, gK.warm hW hK⟩⟩ rfl hn hsz hst (lv_room (pc := pc) (ls := ls) (rest := st0) (m := m) hcat) hdg ⟨Nat.zero_le _, Nat.zero_le _⟩) kk
theorem PurL.cv {post : Int64 → Prop} (hM : PurL l g y ws d (.ref b :: As) w0 post) (fx : CallFix p m c cc nL s args Ts own) (hG : GoodIn Ts (wsV own index C y ws)) (hw : ws = Cond.code y bytes maxL ret :: ws') (hd : hdV y C n) (hR : roomOk d maxL R)
    (hK : gK g s) (hP : va_P g.1 vwCl wc H) (isC : List Nat) (hC : isC.filterMap (fun i => wc[i]?) = w0) (hq : w0[0]? = some (b, .inr (ci, fs))) (hc : vwCl[ci]? = some (C, T, N))
    (hst : st0 = As.reverse ++ .ref b :: rest) (hn : As.length = n) (hsz : ls.size = nL) (hcat : (rest.map fun v => v.category).sum ≤ 8) (hdg : decode cc pc = .ok (.invokevirtual index, 3))
    (kk : ∀ r : Int64, post r → W p l e R s m args below meth c H locs 0 0 Q (F0 m (pc + 3) ls (.long r :: rest))) : W p l e R s m args below meth c H locs 0 0 Q (F0 m pc ls st0) := by
  have hP0 := hP.sub (ws' := w0) isC hC
  refine run_pl (va_runV fx hM (cwV n fx.2.2.2.2 hG hw rfl rfl hd hR) ⟨PurB.blind, gr_recv hK hP0 hc hq, fun U hU hW => ⟨rfl, by rw [hU]; exact hP0, gK.warm hW hK⟩⟩ rfl hn hsz hst (lv_room (pc := pc) (ls := ls) (rest := st0) (m := m) hcat) hdg ⟨Nat.zero_le _, Nat.zero_le _⟩) kk
/-- static, of its own class -/
theorem PurI.cs {post : Int32 → Prop} (hM : PurI l g y ws d As w0 post) (fx : CallFix p m c cc nL s args Ts own) (hG : GoodIn Ts (va_wsS own index y ws)) (hw : ws = Cond.code y bytes maxL ret :: ws') (hd : hdV y C n) (hR : roomOk d maxL R)
    (hK : gK g s) (hP : va_P g.1 vwCl wc H) (isC : List Nat) (hC : isC.filterMap (fun i => wc[i]?) = w0)
    (hst : st0 = As.reverse ++ rest) (hn : As.length = n) (hsz : ls.size = nL) (hcat : (rest.map fun v => v.category).sum ≤ 8) (hdg : decode cc pc = .ok (.invokestatic index, 3))
    (kk : ∀ r : Int32, post r → W p l e R s m args below meth c H locs 0 0 Q (F0 m (pc + 3) ls (.int r :: rest))) : W p l e R s m args below meth c H locs 0 0 Q (F0 m pc ls st0) := by
  have hP0 := hP.sub (ws' := w0) isC hC
  refine run_pi (va_runS fx hM (va_cwS n fx.2.2.2.2 hG hw rfl rfl hd.2 hR) ⟨PurB.blind, fun U hU hW => ⟨rfl, by rw [hU]; exact hP0, gK.warm hW hK⟩⟩ rfl hn hsz hst (lv_room (pc := pc) (ls := ls) (rest := st0) (m := m) hcat) hdg ⟨Nat.zero_le _, Nat.zero_le _⟩) kk
/-- static, private, of a nest mate -/
theorem PurI.cn {post : Int32 → Prop} {host : String} (hM : PurI l g y ws d As w0 post) (fx : CallFix p m c cc nL s args Ts own) (hG : GoodIn Ts ws) (hw : ws = Cond.code y bytes maxL ret :: ws') (hd : hdV y C n) (hR : roomOk d maxL R)
    (hK : gK g s) (hP : va_P g.1 vwCl wc H) (isC : List Nat) (hC : isC.filterMap (fun i => wc[i]?) = w0) (hne : (own, index, y, host) ∈ nestM) (hsta : Cond.static y ∈ Ts) (hini : Cond.initialized y.cls ∈ Ts)
    (hst : st0 = As.reverse ++ rest) (hn : As.length = n) (hsz : ls.size = nL) (hcat : (rest.map fun v => v.category).sum ≤ 8) (hdg : decode cc pc = .ok (.invokestatic index, 3))
    (kk : ∀ r : Int32, post r → W p l e R s m args below meth c H locs 0 0 Q (F0 m (pc + 3) ls (.int r :: rest))) : W p l e R s m args below meth c H locs 0 0 Q (F0 m pc ls st0) := by
  have hP0 := hP.sub (ws' := w0) isC hC
  refine run_pi (va_runSN fx hM ⟨va_cnB n fx.2.2.2.2 hG hw rfl rfl (hK.2.1 _ hne) (fx.2.2.2.2 _ hini) hd.2 hR, fx.2.2.2.2 _ hsta, trivial⟩ ⟨PurB.blind, fun U hU hW => ⟨rfl, by rw [hU]; exact hP0, gK.warm hW hK⟩⟩ rfl hn hsz hst (lv_room (pc := pc) (ls := ls) (rest := st0) (m := m) hcat) hdg ⟨Nat.zero_le _, Nat.zero_le _⟩) kk
theorem fm_map {α : Type} {is : List Nat} {ws w0 : List α} (h : is.map (fun i => ws[i]?) = w0.map some) : is.filterMap (fun i => ws[i]?) = w0 := by
  induction is generalizing w0 with
  | nil => cases w0 with
    | nil => rfl
    | cons a t => cases h
  | cons i t ih => cases w0 with
    | nil => cases h
    | cons a u =>
      simp only [List.map_cons, List.cons.injEq] at h
      simp only [List.filterMap_cons, h.1, ih h.2]
/-- the world behind a call that changes it -/
theorem eff_join {w1 w' : va_W} {H1 : Heap} (hP : va_P g.1 vwCl wc H) (hD : va_D A wc) (hF : ∀ q, va_A w0 H.size q → A q) (isC isR isB : List Nat) (hC : isC.map (fun i => wc[i]?) = w0.map some) (hRs : isR.map (fun i => wc[i]?) = wr.map some) (hn1 : va_nd isR = true) (hdis : ∀ i ∈ isR, i ∉ isC) (hn2 : va_nd isB = true)
    (hB : isB.map (fun i => (wr ++ w1)[i]?) = w'.map some) (hk : ∀ q : Nat, q < H.size → ¬ va_A w0 H.size q → H1[q]? = H[q]?) (hP1 : va_P g.1 vwCl w1 H1) (hD1 : va_D (va_A w0 H.size) w1) : va_P g.1 vwCl w' H1 ∧ va_D A w' := by
  obtain ⟨h1, h2⟩ := va_join hP hD isC isR hC hRs hn1 hdis hk hF hP1 hD1
  exact ⟨h1.sub isB (fm_map hB), h2.sub isB hn2 hB⟩
theorem nd_of {is : List Nat} (h : va_nd is = true) : va_nd is = true := h
theorem EffI.cv {S : Type} {w1 w' : S → va_W} {post : Int32 → S → Prop} (hM : EffI l g y ws d (.ref b :: As) w0 w1 post) (fx : CallFix p m c cc nL s args Ts own) (hG : GoodIn Ts (wsV own index C y ws)) (hw : ws = Cond.code y bytes maxL ret :: ws') (hd : hdV y C n) (hR : roomOk d maxL R)
    (hK : gK g s) (hP : va_P g.1 vwCl wc H) (hD : va_D A wc) (hS : va_S A H0 H locs) (hA : ∀ q : Nat, H0.size ≤ q → A q) (isC isR isB : List Nat) (hC : isC.map (fun i => wc[i]?) = w0.map some) (hRs : isR.map (fun i => wc[i]?) = wr.map some) (hn0 : va_nd isC = true) (hn1 : va_nd isR = true) (hdis : ∀ i ∈ isR, i ∉ isC) (hn2 : va_nd isB = true) (hB : ∀ u, isB.map (fun i => (wr ++ w1 u)[i]?) = (w' u).map some)
    (hq : w0[0]? = some (b, .inr (ci, fs))) (hc : vwCl[ci]? = some (C, T, N)) (hst : st0 = As.reverse ++ .ref b :: rest) (hn : As.length = n) (hsz : ls.size = nL) (hcat : (rest.map fun v => v.category).sum ≤ 8) (hdg : decode cc pc = .ok (.invokevirtual index, 3))
    (kk : ∀ (r : Int32) (u : S) (H1 : Heap) (locs1 : List Loc), post r u → va_P g.1 vwCl (w' u) H1 → va_D A (w' u) → va_S A H0 H1 locs1 → W p l e R s m args below meth c H1 locs1 0 0 Q (F0 m (pc + 3) ls (.int r :: rest))) : W p l e R s m args below meth c H locs 0 0 Q (F0 m pc ls st0) := by
  have hP0 := hP.sub (ws' := w0) isC (fm_map hC)
  have hD0 := hD.sub (ws' := w0) isC hn0 hC
  have hF := va_free (wc := w0) hD hS hA isC hC
  refine va_calli (va_runV fx (hM H.size) (cwV n fx.2.2.2.2 hG hw rfl rfl hd hR) ⟨EffB.blind, gr_recv hK hP0 hc hq, fun U hU hW => ⟨rfl, by rw [hU], by rw [hU]; exact hP0, gK.warm hW hK, hD0.weaken (fun _ _ _ _ => trivial)⟩⟩ rfl hn hsz hst (lv_room (pc := pc) (ls := ls) (rest := st0) (m := m) hcat) hdg ⟨Nat.zero_le _, Nat.zero_le _⟩) hS (fun q _ h => hF q h) hF (fun r u t H1 locs1 ht _ hw1 hB1 _ hk hS1 => ?_)
  obtain ⟨hP1, hD1⟩ := hB1
  rw [ht] at hP1
  obtain ⟨h1, h2⟩ := eff_join hP hD hF isC isR isB hC hRs hn1 hdis hn2 (hB u) hk hP1 hD1
  exact kk r u H1 locs1 hw1 h1 h2 hS1
/-- static, of its own class, that changes the world -/
theorem EffI.cs {S : Type} {w1 w' : S → va_W} {post : Int32 → S → Prop} (hM : EffI l g y ws d As w0 w1 post) (fx : CallFix p m c cc nL s args Ts own) (hG : GoodIn Ts (va_wsS own index y ws)) (hw : ws = Cond.code y bytes maxL ret :: ws') (hd : hdV y C n) (hR : roomOk d maxL R)
    (hK : gK g s) (hP : va_P g.1 vwCl wc H) (hD : va_D A wc) (hS : va_S A H0 H locs) (hA : ∀ q : Nat, H0.size ≤ q → A q) (isC isR isB : List Nat) (hC : isC.map (fun i => wc[i]?) = w0.map some) (hRs : isR.map (fun i => wc[i]?) = wr.map some) (hn0 : va_nd isC = true) (hn1 : va_nd isR = true) (hdis : ∀ i ∈ isR, i ∉ isC) (hn2 : va_nd isB = true) (hB : ∀ u, isB.map (fun i => (wr ++ w1 u)[i]?) = (w' u).map some)
    (hst : st0 = As.reverse ++ rest) (hn : As.length = n) (hsz : ls.size = nL) (hcat : (rest.map fun v => v.category).sum ≤ 8) (hdg : decode cc pc = .ok (.invokestatic index, 3))
    (kk : ∀ (r : Int32) (u : S) (H1 : Heap) (locs1 : List Loc), post r u → va_P g.1 vwCl (w' u) H1 → va_D A (w' u) → va_S A H0 H1 locs1 → W p l e R s m args below meth c H1 locs1 0 0 Q (F0 m (pc + 3) ls (.int r :: rest))) : W p l e R s m args below meth c H locs 0 0 Q (F0 m pc ls st0) := by
  have hP0 := hP.sub (ws' := w0) isC (fm_map hC)
  have hD0 := hD.sub (ws' := w0) isC hn0 hC
  have hF := va_free (wc := w0) hD hS hA isC hC
  refine va_calli (va_runS fx (hM H.size) (va_cwS n fx.2.2.2.2 hG hw rfl rfl hd.2 hR) ⟨EffB.blind, fun U hU hW => ⟨rfl, by rw [hU], by rw [hU]; exact hP0, gK.warm hW hK, hD0.weaken (fun _ _ _ _ => trivial)⟩⟩ rfl hn hsz hst (lv_room (pc := pc) (ls := ls) (rest := st0) (m := m) hcat) hdg ⟨Nat.zero_le _, Nat.zero_le _⟩) hS (fun q _ h => hF q h) hF (fun r u t H1 locs1 ht _ hw1 hB1 _ hk hS1 => ?_)
  obtain ⟨hP1, hD1⟩ := hB1
  rw [ht] at hP1
  obtain ⟨h1, h2⟩ := eff_join hP hD hF isC isR isB hC hRs hn1 hdis hn2 (hB u) hk hP1 hD1
  exact kk r u H1 locs1 hw1 h1 h2 hS1
theorem EffV.cv {S : Type} {w1 w' : S → va_W} {post : S → Prop} (hM : EffV l g y ws d (.ref b :: As) w0 w1 post) (fx : CallFix p m c cc nL s args Ts own) (hG : GoodIn Ts (wsV own index C y ws)) (hw : ws = Cond.code y bytes maxL ret :: ws') (hd : hdV y C n) (hR : roomOk d maxL R)
    (hK : gK g s) (hP : va_P g.1 vwCl wc H) (hD : va_D A wc) (hS : va_S A H0 H locs) (hA : ∀ q : Nat, H0.size ≤ q → A q) (isC isR isB : List Nat) (hC : isC.map (fun i => wc[i]?) = w0.map some) (hRs : isR.map (fun i => wc[i]?) = wr.map some) (hn0 : va_nd isC = true) (hn1 : va_nd isR = true) (hdis : ∀ i ∈ isR, i ∉ isC) (hn2 : va_nd isB = true) (hB : ∀ u, isB.map (fun i => (wr ++ w1 u)[i]?) = (w' u).map some)
    (hq : w0[0]? = some (b, .inr (ci, fs))) (hc : vwCl[ci]? = some (C, T, N)) (hst : st0 = As.reverse ++ .ref b :: rest) (hn : As.length = n) (hsz : ls.size = nL) (hcat : (rest.map fun v => v.category).sum ≤ 8) (hdg : decode cc pc = .ok (.invokevirtual index, 3))
    (kk : ∀ (u : S) (H1 : Heap) (locs1 : List Loc), post u → va_P g.1 vwCl (w' u) H1 → va_D A (w' u) → va_S A H0 H1 locs1 → W p l e R s m args below meth c H1 locs1 0 0 Q (F0 m (pc + 3) ls rest)) : W p l e R s m args below meth c H locs 0 0 Q (F0 m pc ls st0) := by
  have hP0 := hP.sub (ws' := w0) isC (fm_map hC)
  have hD0 := hD.sub (ws' := w0) isC hn0 hC
  have hF := va_free (wc := w0) hD hS hA isC hC
  refine va_callv (va_runV fx (hM H.size) (cwV n fx.2.2.2.2 hG hw rfl rfl hd hR) ⟨EffB.blind, gr_recv hK hP0 hc hq, fun U hU hW => ⟨rfl, by rw [hU], by rw [hU]; exact hP0, gK.warm hW hK, hD0.weaken (fun _ _ _ _ => trivial)⟩⟩ rfl hn hsz hst (lv_room (pc := pc) (ls := ls) (rest := st0) (m := m) hcat) hdg ⟨Nat.zero_le _, Nat.zero_le _⟩) hS (fun q _ h => hF q h) hF (fun u t H1 locs1 ht _ hw1 hB1 _ hk hS1 => ?_)
  obtain ⟨hP1, hD1⟩ := hB1
  rw [ht] at hP1
  obtain ⟨h1, h2⟩ := eff_join hP hD hF isC isR isB hC hRs hn1 hdis hn2 (hB u) hk hP1 hD1
  exact kk u H1 locs1 hw1 h1 h2 hS1
end Calls
section Nums
theorem t_add {x y z : Int32} {a b : Int} (h : z = x + y) (hx : x.toInt = a) (hy : y.toInt = b) (hr : -2147483648 ≤ a + b ∧ a + b ≤ 2147483647) : z.toInt = a + b := by
  subst h; subst hx; subst hy
  rw [Int32.toInt_add]
  exact Int.bmod_eq_of_le (by omega) (by omega)
theorem t_sub {x y z : Int32} {a b : Int} (h : z = x - y) (hx : x.toInt = a) (hy : y.toInt = b) (hr : -2147483648 ≤ a - b ∧ a - b ≤ 2147483647) : z.toInt = a - b := by
  subst h; subst hx; subst hy
  rw [Int32.toInt_sub]
  exact Int.bmod_eq_of_le (by omega) (by omega)
theorem t_mul {x y z : Int32} {a b : Int} (h : z = x * y) (hx : x.toInt = a) (hy : y.toInt = b) (hr : -2147483648 ≤ a * b ∧ a * b ≤ 2147483647) : z.toInt = a * b := by
  subst h; subst hx; subst hy
  rw [Int32.toInt_mul]
  exact Int.bmod_eq_of_le (by omega) (by omega)
theorem t_rng (x : Int32) : -2147483648 ≤ x.toInt ∧ x.toInt ≤ 2147483647 := ⟨Int32.le_toInt x, by have := Int32.toInt_lt x; omega⟩
theorem t_le {x y : Int32} {a b : Int} (h : x ≤ y) (hx : x.toInt = a) (hy : y.toInt = b) : a ≤ b := by subst hx; subst hy; exact Int32.le_iff_toInt_le.mp h
theorem t_nle {x y : Int32} {a b : Int} (h : ¬ x ≤ y) (hx : x.toInt = a) (hy : y.toInt = b) : b < a := by subst hx; subst hy; exact Int.not_le.mp (fun q => h (Int32.le_iff_toInt_le.mpr q))
theorem t_lt {x y : Int32} {a b : Int} (h : x < y) (hx : x.toInt = a) (hy : y.toInt = b) : a < b := by subst hx; subst hy; exact Int32.lt_iff_toInt_lt.mp h
theorem t_nlt {x y : Int32} {a b : Int} (h : ¬ x < y) (hx : x.toInt = a) (hy : y.toInt = b) : b ≤ a := by subst hx; subst hy; exact Int.not_lt.mp (fun q => h (Int32.lt_iff_toInt_lt.mpr q))
theorem t_eq {x y : Int32} {a b : Int} (h : x = y) (hx : x.toInt = a) (hy : y.toInt = b) : a = b := by subst hx; subst hy; exact congrArg _ h
theorem t_neq {x y : Int32} {a b : Int} (h : ¬ x = y) (hx : x.toInt = a) (hy : y.toInt = b) : a ≠ b := by subst hx; subst hy; exact fun q => h (Int32.toInt_inj.mp q)
theorem t_in {i : Int32} {n : Nat} (h : 0 ≤ i.toInt ∧ i.toInt < (n : Int)) : vp_in i n := vp_in_iff.mpr h
theorem t_cl {i : Int32} {a : Int} (hx : i.toInt = a) (h : 0 ≤ a) : (i.toNatClampNeg : Int) = a := by
  subst hx
  show ((i.toInt.toNat : Nat) : Int) = i.toInt
  omega
theorem t_nI {x : Int32} {a : Int} (hx : x.toInt = a) (h : 0 ≤ a) : x = nI a.toNat ∧ a.toNat < 2 ^ 31 := by
  subst hx
  obtain ⟨j, hj, e⟩ := nI_of (x := x) (fun q => by have := t_lt q rfl (by decide : (0 : Int32).toInt = 0); omega)
  subst e
  rw [nI_toInt hj]
  exact ⟨by simp, by simpa using hj⟩
theorem t_div {x y z : Int32} {a b : Int} (h : z = x / y) (hx : x.toInt = a) (hy : y.toInt = b) (ha : 0 ≤ a) (hb : 0 < b) : z.toInt = a / b := by
  obtain ⟨e1, l1⟩ := t_nI hx ha
  obtain ⟨e2, l2⟩ := t_nI hy (Int.le_of_lt hb)
  rw [h, e1, e2, pk_div l1 (by omega) l2, nI_toInt (Nat.lt_of_le_of_lt (Nat.div_le_self _ _) l1)]
  rw [Int.natCast_ediv, Int.toNat_of_nonneg ha, Int.toNat_of_nonneg (Int.le_of_lt hb)]
theorem t_rem {x y z : Int32} {a b : Int} (h : z = x - x / y * y) (hx : x.toInt = a) (hy : y.toInt = b) (ha : 0 ≤ a) (hb : 0 < b) : z.toInt = a % b := by
  obtain ⟨e1, l1⟩ := t_nI hx ha
  obtain ⟨e2, l2⟩ := t_nI hy (Int.le_of_lt hb)
  rw [h, e1, e2, pk_rem l1 (by omega) l2, nI_toInt (Nat.lt_of_le_of_lt (Nat.mod_le _ _) l1)]
  rw [Int.natCast_emod, Int.toNat_of_nonneg ha, Int.toNat_of_nonneg (Int.le_of_lt hb)]
theorem t_max {x y z : Int32} {a b : Int} (h : z = if x < y then y else x) (hx : x.toInt = a) (hy : y.toInt = b) : z.toInt = max a b := by
  subst hx; subst hy; subst h
  split
  · rename_i h; have := Int32.lt_iff_toInt_lt.mp h; omega
  · rename_i h; have : ¬ x.toInt < y.toInt := fun q => h (Int32.lt_iff_toInt_lt.mpr q); omega
theorem t_min {x y z : Int32} {a b : Int} (h : z = if y < x then y else x) (hx : x.toInt = a) (hy : y.toInt = b) : z.toInt = min a b := by
  subst hx; subst hy; subst h
  split
  · rename_i h; have := Int32.lt_iff_toInt_lt.mp h; omega
  · rename_i h; have : ¬ y.toInt < x.toInt := fun q => h (Int32.lt_iff_toInt_lt.mpr q); omega
def bP (P N : Prop) (r : Int32) : Prop := (r = 1 ∧ P) ∨ (r = 0 ∧ N)
theorem bP.t {P N : Prop} {r : Int32} (h : bP P N r) (hr : ¬ r = 0) : P := by
  rcases h with ⟨_, h⟩ | ⟨h, _⟩
  · exact h
  · exact absurd h hr
theorem bP.f {P N : Prop} {r : Int32} (h : bP P N r) (hr : r = 0) : N := by
  rcases h with ⟨h, _⟩ | ⟨_, h⟩
  · subst hr; exact absurd h (by decide)
  · exact h
theorem bP.z {P N : Prop} {r : Int32} (h : bP P N r) : r = 0 ∨ r = 1 := by
  rcases h with ⟨h, _⟩ | ⟨h, _⟩
  · exact Or.inr h
  · exact Or.inl h
theorem bP.imp {P N P' N' : Prop} {r : Int32} (h : bP P N r) (hp : P → P') (hn : N → N') : bP P' N' r := by
  rcases h with ⟨a, b⟩ | ⟨a, b⟩
  · exact Or.inl ⟨a, hp b⟩
  · exact Or.inr ⟨a, hn b⟩
theorem and31 (x : Int32) : 0 ≤ (x &&& 31).toInt ∧ (x &&& 31).toInt ≤ 31 := by
  obtain ⟨j, hj, e⟩ := pk_andE x (m := 31) 5 (by decide)
  rw [e, nI_toInt (by omega)]
  omega
end Nums
abbrev wArr (g : gG) (a : Nat → Nat) (n : Nat) (I : Nat → Nat → Int32) : va_W := [(a 0, .inl (g.2.1, n, .inl (I 0)))]
abbrev wX0 (g : gG) (a : Nat → Nat) (I : Nat → Nat → Int32) : va_W := [(a 0, .inr (0, [.ref (a 1), .int (I 0 1)])), (a 1, .inl (g.2.1, 72, .inl (I 1)))]
abbrev wX1 (g : gG) (a : Nat → Nat) (I : Nat → Nat → Int32) : va_W := [(a 0, .inr (1, [.ref (a 1), .ref (a 2), .int (I 0 2), .ref (a 3), .ref (a 4), .ref (a 5), .int (I 0 6), .int (I 0 7), .ref (a 6)])), (a 1, .inl (g.2.1, 150, .inl (I 1))), (a 2, .inl (g.2.1, 150, .inl (I 2))), (a 3, .inl (g.2.1, 550, .inl (I 3))), (a 4, .inl (g.2.1, 550, .inl (I 4))), (a 5, .inl (g.2.1, 550, .inl (I 5))), (a 6, .inl (g.2.1, 151, .inl (I 6)))]
abbrev wX3 (g : gG) (a : Nat → Nat) (I : Nat → Nat → Int32) : va_W := [(a 0, .inr (3, [.ref (a 100), .int (I 0 1), .int (I 0 2), .int (I 0 3), .int (I 0 4), .int (I 0 5), .int (I 0 6), .int (I 0 7), .int (I 0 8), .int (I 0 9)]))]
abbrev wX4 (g : gG) (a : Nat → Nat) (I : Nat → Nat → Int32) : va_W := [(a 0, .inr (4, [.int (I 0 0), .int (I 0 1), .ref (a 1), .ref (a 2), .ref (a 3), .int (I 0 5), .ref (a 4), .ref (a 5), .ref (a 6), .ref (a 7), .ref (a 8)])), (a 1, .inl (g.2.1, 20, .inl (I 1))), (a 2, .inl (g.2.1, 20, .inl (I 2))), (a 3, .inl (g.2.1, 20, .inl (I 3))), (a 4, .inl (g.2.1, 21, .inl (I 4))), (a 5, .inl (g.2.1, 120, .inl (I 5))), (a 6, .inl (g.2.1, 21, .inl (I 6))), (a 7, .inl (g.2.1, 21, .inl (I 7))), (a 8, .inl (g.2.1, 21, .inl (I 8)))]
abbrev wX5 (g : gG) (a : Nat → Nat) (I : Nat → Nat → Int32) : va_W := [(a 0, .inr (5, [.ref (a 1), .int (I 0 1), .ref (a 2)])), (a 1, .inl (g.2.1, 300, .inl (I 1))), (a 2, .inl (g.2.1, 301, .inl (I 2)))]
abbrev wX6 (g : gG) (a : Nat → Nat) (I : Nat → Nat → Int32) : va_W := [(a 0, .inr (6, [.ref (a 1), .ref (a 2), .ref (a 3), .int (I 0 3), .int (I 0 4), .int (I 0 5), .int (I 0 6), .int (I 0 7), .int (I 0 8), .int (I 0 9)])), (a 1, .inl (g.2.1, 1200, .inl (I 1))), (a 2, .inl (g.2.1, 1200, .inl (I 2))), (a 3, .inl (g.2.1, 24, .inl (I 3)))]
abbrev wX7 (g : gG) (a : Nat → Nat) (I : Nat → Nat → Int32) : va_W := [(a 0, .inr (7, [.int (I 0 0), .int (I 0 1), .ref (a 1), .ref (a 2), .ref (a 3), .ref (a 4), .ref (a 5), .ref (a 6)])), (a 1, .inl (g.2.1, 5, .inl (I 1))), (a 2, .inl (g.2.1, 24, .inl (I 2))), (a 3, .inl (g.2.1, 24, .inl (I 3))), (a 4, .inl (g.2.1, 24, .inl (I 4))), (a 5, .inl (g.2.1, 144, .inl (I 5))), (a 6, .inl (g.2.1, 72, .inl (I 6)))]
abbrev wX8 (g : gG) (a : Nat → Nat) (I : Nat → Nat → Int32) (J : Nat → Nat → Int64) : va_W := [(a 0, .inr (8, [.ref (a 1), .ref (a 2), .ref (a 3)])), (a 1, .inl (g.2.2.1, 240, .inr (.inl (J 1)))), (a 2, .inl (g.2.1, 4, .inl (I 2))), (a 3, .inl (g.2.1, 4, .inl (I 3)))]
abbrev wX9 (g : gG) (a : Nat → Nat) (I : Nat → Nat → Int32) : va_W := [(a 0, .inr (9, [.ref (a 1), .int (I 0 1), .int (I 0 2)])), (a 1, .inl (g.2.1, 1200, .inl (I 1)))]
abbrev wX10 (g : gG) (a : Nat → Nat) (I : Nat → Nat → Int32) (J : Nat → Nat → Int64) : va_W := [(a 0, .inr (10, [.ref (a 1), .int (I 0 1), .int (I 0 2), .int (I 0 3), .int (I 0 4), .long (J 0 5), .long (J 0 6), .ref (a 107), .ref (a 108), .ref (a 109), .ref (a 110), .int (I 0 11), .ref (a 112), .ref (a 113), .ref (a 114), .ref (a 115), .ref (a 116), .ref (a 117), .ref (a 118), .int (I 0 19)])), (a 1, .inl (g.2.1, 900, .inl (I 1)))]
abbrev wX11 (g : gG) (a : Nat → Nat) (I : Nat → Nat → Int32) (J : Nat → Nat → Int64) : va_W := [(a 0, .inr (11, [.ref (a 1), .int (I 0 1), .long (J 0 2), .long (J 0 3), .ref (a 2), .ref (a 3), .ref (a 4), .ref (a 5), .ref (a 6), .int (I 0 9), .int (I 0 10), .int (I 0 11), .int (I 0 12), .int (I 0 13), .int (I 0 14), .int (I 0 15), .int (I 0 16), .int (I 0 17), .int (I 0 18), .int (I 0 19), .int (I 0 20), .int (I 0 21), .ref (a 7), .ref (a 8), .ref (a 9), .ref (a 10), .ref (a 11), .int (I 0 27), .int (I 0 28), .int (I 0 29), .ref (a 12), .ref (a 13), .ref (a 14), .ref (a 15), .ref (a 16), .ref (a 17), .int (I 0 36), .int (I 0 37), .ref (a 18), .ref (a 19), .ref (a 20), .int (I 0 41), .int (I 0 42), .ref (a 21), .ref (a 22), .int (I 0 45)])), (a 1, .inl (g.2.1, 19800, .inl (I 1))), (a 2, .inl (g.2.1, 4, .inl (I 2))), (a 3, .inl (g.2.1, 4, .inl (I 3))), (a 4, .inl (g.2.2.1, 240, .inr (.inl (J 4)))), (a 5, .inl (g.2.2.2.1, 900, .inl (I 5))), (a 6, .inl (g.2.2.2.1, 900, .inl (I 6))), (a 7, .inl (g.2.1, 2600, .inl (I 7))), (a 8, .inl (g.2.1, 1300, .inl (I 8))), (a 9, .inl (g.2.1, 1300, .inl (I 9))), (a 10, .inl (g.2.1, 160, .inl (I 10))), (a 11, .inl (g.2.1, 160, .inl (I 11))), (a 12, .inl (g.2.1, 160, .inl (I 12))), (a 13, .inl (g.2.1, 301, .inl (I 13))), (a 14, .inl (g.2.1, 20, .inl (I 14))), (a 15, .inl (g.2.1, 20, .inl (I 15))), (a 16, .inl (g.2.1, 21, .inl (I 16))), (a 17, .inl (g.2.1, 20, .inl (I 17))), (a 18, .inl (g.2.1, 21, .inl (I 18))), (a 19, .inl (g.2.1, 22, .inl (I 19))), (a 20, .inl (g.2.1, 4161, .inl (I 20))), (a 21, .inl (g.2.1, 1250, .inl (I 21))), (a 22, .inl (g.2.1, 1250, .inl (I 22)))]

/-- what holds of a table of RULES at any time -/
def TI (I : Nat → Nat → Int32) : Prop := (0 ≤ (I 0 0).toInt ∧ (I 0 0).toInt ≤ 24) ∧ (∀ j : Nat, 0 ≤ (I 1 j).toInt ∧ (I 1 j).toInt ≤ 63) ∧ (4 ≤ (I 1 3).toInt ∧ (I 1 3).toInt ≤ 40) ∧ (2 ≤ (I 1 4).toInt ∧ (I 1 4).toInt ≤ 30) ∧ (∀ j : Nat, 0 ≤ (I 2 j).toInt ∧ (I 2 j).toInt ≤ 6) ∧ (∀ j : Nat, 0 ≤ (I 3 j).toInt ∧ (I 3 j).toInt ≤ 3) ∧ (∀ j : Nat, 0 ≤ (I 4 j).toInt ∧ (I 4 j).toInt ≤ 4) ∧ (∀ j : Nat, 0 ≤ (I 5 j).toInt ∧ (I 5 j).toInt ≤ 31) ∧ (∀ j : Nat, 0 ≤ (I 6 j).toInt ∧ (I 6 j).toInt ≤ 63)
theorem TI.ru {I : Nat → Nat → Int32} (h : TI I) : 0 ≤ (I 0 0).toInt ∧ (I 0 0).toInt ≤ 24 := h.1
theorem TI.sg {I : Nat → Nat → Int32} (h : TI I) (j : Nat) : 0 ≤ (I 1 j).toInt ∧ (I 1 j).toInt ≤ 63 := h.2.1 j
theorem TI.li {I : Nat → Nat → Int32} (h : TI I) : 4 ≤ (I 1 3).toInt ∧ (I 1 3).toInt ≤ 40 := h.2.2.1
theorem TI.pa {I : Nat → Nat → Int32} (h : TI I) : 2 ≤ (I 1 4).toInt ∧ (I 1 4).toInt ≤ 30 := h.2.2.2.1
theorem TI.lc {I : Nat → Nat → Int32} (h : TI I) (j : Nat) : 0 ≤ (I 2 j).toInt ∧ (I 2 j).toInt ≤ 6 := h.2.2.2.2.1 j
theorem TI.cc {I : Nat → Nat → Int32} (h : TI I) (j : Nat) : 0 ≤ (I 3 j).toInt ∧ (I 3 j).toInt ≤ 3 := h.2.2.2.2.2.1 j
theorem TI.cd {I : Nat → Nat → Int32} (h : TI I) (j : Nat) : 0 ≤ (I 4 j).toInt ∧ (I 4 j).toInt ≤ 4 := h.2.2.2.2.2.2.1 j
theorem TI.lt {I : Nat → Nat → Int32} (h : TI I) (j : Nat) : 0 ≤ (I 5 j).toInt ∧ (I 5 j).toInt ≤ 31 := h.2.2.2.2.2.2.2.1 j
theorem TI.cl {I : Nat → Nat → Int32} (h : TI I) (j : Nat) : 0 ≤ (I 6 j).toInt ∧ (I 6 j).toInt ≤ 63 := h.2.2.2.2.2.2.2.2 j
/-! rows with the numbers' facts beside them -/
section Wrap
variable {p : Program} {l : Launch} {e : Env} {R : Room} {s : State} {m : MethodId} {args : Array Value} {below : List Frame} {meth : Method} {c : Code} {H : Heap} {locs : List Loc} {cells slots : Nat} {Q : State → Prop} {cc : ByteArray} {pc : Nat} {ls : Array Slot} {rest : List Value}
theorem q_iadd (hx : p.tables.exec = Jvm.exec) (hb : c.code = cc) (hdg : decode cc pc = .ok (.iadd, 1)) {x y : Int32} {a b : Int} (px : x.toInt = a) (py : y.toInt = b) (hr : -2147483648 ≤ a + b ∧ a + b ≤ 2147483647)
    (k : ∀ z : Int32, z = x + y → z.toInt = a + b → W p l e R s m args below meth c H locs cells slots Q (F0 m (pc + 1) ls (.int z :: rest))) : W p l e R s m args below meth c H locs cells slots Q (F0 m pc ls (.int y :: .int x :: rest)) := lv_iadd hx hb hdg (k _ rfl (t_add rfl px py hr))
theorem q_isub (hx : p.tables.exec = Jvm.exec) (hb : c.code = cc) (hdg : decode cc pc = .ok (.isub, 1)) {x y : Int32} {a b : Int} (px : x.toInt = a) (py : y.toInt = b) (hr : -2147483648 ≤ a - b ∧ a - b ≤ 2147483647)
    (k : ∀ z : Int32, z = x - y → z.toInt = a - b → W p l e R s m args below meth c H locs cells slots Q (F0 m (pc + 1) ls (.int z :: rest))) : W p l e R s m args below meth c H locs cells slots Q (F0 m pc ls (.int y :: .int x :: rest)) := lv_isub hx hb hdg (k _ rfl (t_sub rfl px py hr))
theorem q_imul (hx : p.tables.exec = Jvm.exec) (hb : c.code = cc) (hdg : decode cc pc = .ok (.imul, 1)) {x y : Int32} {a b : Int} (px : x.toInt = a) (py : y.toInt = b) (hr : -2147483648 ≤ a * b ∧ a * b ≤ 2147483647)
    (k : ∀ z : Int32, z = x * y → z.toInt = a * b → W p l e R s m args below meth c H locs cells slots Q (F0 m (pc + 1) ls (.int z :: rest))) : W p l e R s m args below meth c H locs cells slots Q (F0 m pc ls (.int y :: .int x :: rest)) := lv_imul hx hb hdg (k _ rfl (t_mul rfl px py hr))
theorem r_iadd (hx : p.tables.exec = Jvm.exec) (hb : c.code = cc) (hdg : decode cc pc = .ok (.iadd, 1)) {x y : Int32} {a b : Int} (px : x.toInt = a) (py : y.toInt = b)
    (k : ∀ z : Int32, z = x + y → ((-2147483648 ≤ a + b ∧ a + b ≤ 2147483647) → z.toInt = a + b) → W p l e R s m args below meth c H locs cells slots Q (F0 m (pc + 1) ls (.int z :: rest))) : W p l e R s m args below meth c H locs cells slots Q (F0 m pc ls (.int y :: .int x :: rest)) := lv_iadd hx hb hdg (k _ rfl (fun hr => t_add rfl px py hr))
theorem r_isub (hx : p.tables.exec = Jvm.exec) (hb : c.code = cc) (hdg : decode cc pc = .ok (.isub, 1)) {x y : Int32} {a b : Int} (px : x.toInt = a) (py : y.toInt = b)
    (k : ∀ z : Int32, z = x - y → ((-2147483648 ≤ a - b ∧ a - b ≤ 2147483647) → z.toInt = a - b) → W p l e R s m args below meth c H locs cells slots Q (F0 m (pc + 1) ls (.int z :: rest))) : W p l e R s m args below meth c H locs cells slots Q (F0 m pc ls (.int y :: .int x :: rest)) := lv_isub hx hb hdg (k _ rfl (fun hr => t_sub rfl px py hr))
theorem r_imul (hx : p.tables.exec = Jvm.exec) (hb : c.code = cc) (hdg : decode cc pc = .ok (.imul, 1)) {x y : Int32} {a b : Int} (px : x.toInt = a) (py : y.toInt = b)
    (k : ∀ z : Int32, z = x * y → ((-2147483648 ≤ a * b ∧ a * b ≤ 2147483647) → z.toInt = a * b) → W p l e R s m args below meth c H locs cells slots Q (F0 m (pc + 1) ls (.int z :: rest))) : W p l e R s m args below meth c H locs cells slots Q (F0 m pc ls (.int y :: .int x :: rest)) := lv_imul hx hb hdg (k _ rfl (fun hr => t_mul rfl px py hr))
/-- a computed number gets a name -/
theorem q_nm {x : Int32} (k : ∀ z : Int32, z = x → W p l e R s m args below meth c H locs cells slots Q (F0 m pc ls (.int z :: rest))) : W p l e R s m args below meth c H locs cells slots Q (F0 m pc ls (.int x :: rest)) := k x rfl
theorem q_nml {x : Int64} (k : ∀ z : Int64, z = x → W p l e R s m args below meth c H locs cells slots Q (F0 m pc ls (.long z :: rest))) : W p l e R s m args below meth c H locs cells slots Q (F0 m pc ls (.long x :: rest)) := k x rfl
theorem q_iinc (hx : p.tables.exec = Jvm.exec) (hb : c.code = cc) {i nL k : Nat} {n : Int} {x : Int32} {lv : List (Nat × Value)} {lv' : Int32 → List (Nat × Value)} (hdg : decode cc pc = .ok (.iinc i n, 3)) (h : lv_has ls nL lv) (hk : lv[k]? = some (i, .int x)) (hn : i < nL) {a : Int} (px : x.toInt = a) (pn : (Int32.ofInt n).toInt = n) (hr : -2147483648 ≤ a + n ∧ a + n ≤ 2147483647)
    (hl : ∀ v, (i, Value.int v) :: lv.filter (fun q => !(q.1 == i) && !(q.1 + 1 == i && q.2.category == 2)) = lv' v)
    (kk : ∀ v : Int32, v = x + Int32.ofInt n → v.toInt = a + n → ∀ ls : Array Slot, lv_has ls nL (lv' v) → W p l e R s m args below meth c H locs cells slots Q (F0 m (pc + 3) ls rest)) : W p l e R s m args below meth c H locs cells slots Q (F0 m pc ls rest) :=
  lv_iinc (v := x + Int32.ofInt n) hx hb hdg h hk rfl hn (hl _) (fun ls hl => kk _ rfl (t_add rfl px pn hr) ls hl)
theorem r_iinc (hx : p.tables.exec = Jvm.exec) (hb : c.code = cc) {i nL k : Nat} {n : Int} {x : Int32} {lv : List (Nat × Value)} {lv' : Int32 → List (Nat × Value)} (hdg : decode cc pc = .ok (.iinc i n, 3)) (h : lv_has ls nL lv) (hk : lv[k]? = some (i, .int x)) (hn : i < nL) {a : Int} (px : x.toInt = a) (pn : (Int32.ofInt n).toInt = n)
    (hl : ∀ v, (i, Value.int v) :: lv.filter (fun q => !(q.1 == i) && !(q.1 + 1 == i && q.2.category == 2)) = lv' v)
    (kk : ∀ v : Int32, v = x + Int32.ofInt n → ((-2147483648 ≤ a + n ∧ a + n ≤ 2147483647) → v.toInt = a + n) → ∀ ls : Array Slot, lv_has ls nL (lv' v) → W p l e R s m args below meth c H locs cells slots Q (F0 m (pc + 3) ls rest)) : W p l e R s m args below meth c H locs cells slots Q (F0 m pc ls rest) :=
  lv_iinc (v := x + Int32.ofInt n) hx hb hdg h hk rfl hn (hl _) (fun ls hl => kk _ rfl (fun hr => t_add rfl px pn hr) ls hl)
theorem q_icmp_ge (hx : p.tables.exec = Jvm.exec) (hb : c.code = cc) {x y : Int32} {a b : Int} {off : Int} {tgt : Nat} (hdg : decode cc pc = .ok (.if_icmp .ge off, 3)) (ht : (pc : Int) + off = (tgt : Int)) (px : x.toInt = a) (py : y.toInt = b) (kt : b ≤ a → W p l e R s m args below meth c H locs cells slots Q (F0 m tgt ls rest)) (kf : a < b → W p l e R s m args below meth c H locs cells slots Q (F0 m (pc + 3) ls rest)) : W p l e R s m args below meth c H locs cells slots Q (F0 m pc ls (.int y :: .int x :: rest)) := lv_icmp_ge hx hb hdg ht (fun h => kt (t_le h py px)) (fun h => kf (t_nle h py px))
theorem q_icmp_lt (hx : p.tables.exec = Jvm.exec) (hb : c.code = cc) {x y : Int32} {a b : Int} {off : Int} {tgt : Nat} (hdg : decode cc pc = .ok (.if_icmp .lt off, 3)) (ht : (pc : Int) + off = (tgt : Int)) (px : x.toInt = a) (py : y.toInt = b) (kt : a < b → W p l e R s m args below meth c H locs cells slots Q (F0 m tgt ls rest)) (kf : b ≤ a → W p l e R s m args below meth c H locs cells slots Q (F0 m (pc + 3) ls rest)) : W p l e R s m args below meth c H locs cells slots Q (F0 m pc ls (.int y :: .int x :: rest)) := lv_icmp_lt hx hb hdg ht (fun h => kt (t_lt h px py)) (fun h => kf (t_nlt h px py))
theorem q_icmp_gt (hx : p.tables.exec = Jvm.exec) (hb : c.code = cc) {x y : Int32} {a b : Int} {off : Int} {tgt : Nat} (hdg : decode cc pc = .ok (.if_icmp .gt off, 3)) (ht : (pc : Int) + off = (tgt : Int)) (px : x.toInt = a) (py : y.toInt = b) (kt : b < a → W p l e R s m args below meth c H locs cells slots Q (F0 m tgt ls rest)) (kf : a ≤ b → W p l e R s m args below meth c H locs cells slots Q (F0 m (pc + 3) ls rest)) : W p l e R s m args below meth c H locs cells slots Q (F0 m pc ls (.int y :: .int x :: rest)) := lv_icmp_gt hx hb hdg ht (fun h => kt (t_lt h py px)) (fun h => kf (t_nlt h py px))
theorem q_icmp_le (hx : p.tables.exec = Jvm.exec) (hb : c.code = cc) {x y : Int32} {a b : Int} {off : Int} {tgt : Nat} (hdg : decode cc pc = .ok (.if_icmp .le off, 3)) (ht : (pc : Int) + off = (tgt : Int)) (px : x.toInt = a) (py : y.toInt = b) (kt : a ≤ b → W p l e R s m args below meth c H locs cells slots Q (F0 m tgt ls rest)) (kf : b < a → W p l e R s m args below meth c H locs cells slots Q (F0 m (pc + 3) ls rest)) : W p l e R s m args below meth c H locs cells slots Q (F0 m pc ls (.int y :: .int x :: rest)) := lv_icmp_le hx hb hdg ht (fun h => kt (t_le h px py)) (fun h => kf (t_nle h px py))
theorem q_icmp_eq (hx : p.tables.exec = Jvm.exec) (hb : c.code = cc) {x y : Int32} {a b : Int} {off : Int} {tgt : Nat} (hdg : decode cc pc = .ok (.if_icmp .eq off, 3)) (ht : (pc : Int) + off = (tgt : Int)) (px : x.toInt = a) (py : y.toInt = b) (kt : a = b → W p l e R s m args below meth c H locs cells slots Q (F0 m tgt ls rest)) (kf : a ≠ b → W p l e R s m args below meth c H locs cells slots Q (F0 m (pc + 3) ls rest)) : W p l e R s m args below meth c H locs cells slots Q (F0 m pc ls (.int y :: .int x :: rest)) := lv_icmp_eq hx hb hdg ht (fun h => kt (t_eq h px py)) (fun h => kf (t_neq h px py))
theorem q_icmp_ne (hx : p.tables.exec = Jvm.exec) (hb : c.code = cc) {x y : Int32} {a b : Int} {off : Int} {tgt : Nat} (hdg : decode cc pc = .ok (.if_icmp .ne off, 3)) (ht : (pc : Int) + off = (tgt : Int)) (px : x.toInt = a) (py : y.toInt = b) (kt : a ≠ b → W p l e R s m args below meth c H locs cells slots Q (F0 m tgt ls rest)) (kf : a = b → W p l e R s m args below meth c H locs cells slots Q (F0 m (pc + 3) ls rest)) : W p l e R s m args below meth c H locs cells slots Q (F0 m pc ls (.int y :: .int x :: rest)) := lv_icmp_ne hx hb hdg ht (fun h => kt (t_neq h px py)) (fun h => kf (t_eq h px py))
theorem q_if_ge (hx : p.tables.exec = Jvm.exec) (hb : c.code = cc) {x : Int32} {a : Int} {off : Int} {tgt : Nat} (hdg : decode cc pc = .ok (.ifCond .ge off, 3)) (ht : (pc : Int) + off = (tgt : Int)) (px : x.toInt = a) (kt : 0 ≤ a → W p l e R s m args below meth c H locs cells slots Q (F0 m tgt ls rest)) (kf : a < 0 → W p l e R s m args below meth c H locs cells slots Q (F0 m (pc + 3) ls rest)) : W p l e R s m args below meth c H locs cells slots Q (F0 m pc ls (.int x :: rest)) := lv_if_ge hx hb hdg ht (fun h => kt (t_le h (by decide) px)) (fun h => kf (t_nle h (by decide) px))
theorem q_if_lt (hx : p.tables.exec = Jvm.exec) (hb : c.code = cc) {x : Int32} {a : Int} {off : Int} {tgt : Nat} (hdg : decode cc pc = .ok (.ifCond .lt off, 3)) (ht : (pc : Int) + off = (tgt : Int)) (px : x.toInt = a) (kt : a < 0 → W p l e R s m args below meth c H locs cells slots Q (F0 m tgt ls rest)) (kf : 0 ≤ a → W p l e R s m args below meth c H locs cells slots Q (F0 m (pc + 3) ls rest)) : W p l e R s m args below meth c H locs cells slots Q (F0 m pc ls (.int x :: rest)) := lv_if_lt hx hb hdg ht (fun h => kt (t_lt h px (by decide))) (fun h => kf (t_nlt h px (by decide)))
theorem q_if_gt (hx : p.tables.exec = Jvm.exec) (hb : c.code = cc) {x : Int32} {a : Int} {off : Int} {tgt : Nat} (hdg : decode cc pc = .ok (.ifCond .gt off, 3)) (ht : (pc : Int) + off = (tgt : Int)) (px : x.toInt = a) (kt : 0 < a → W p l e R s m args below meth c H locs cells slots Q (F0 m tgt ls rest)) (kf : a ≤ 0 → W p l e R s m args below meth c H locs cells slots Q (F0 m (pc + 3) ls rest)) : W p l e R s m args below meth c H locs cells slots Q (F0 m pc ls (.int x :: rest)) := lv_if_gt hx hb hdg ht (fun h => kt (t_lt h (by decide) px)) (fun h => kf (t_nlt h (by decide) px))
theorem q_if_le (hx : p.tables.exec = Jvm.exec) (hb : c.code = cc) {x : Int32} {a : Int} {off : Int} {tgt : Nat} (hdg : decode cc pc = .ok (.ifCond .le off, 3)) (ht : (pc : Int) + off = (tgt : Int)) (px : x.toInt = a) (kt : a ≤ 0 → W p l e R s m args below meth c H locs cells slots Q (F0 m tgt ls rest)) (kf : 0 < a → W p l e R s m args below meth c H locs cells slots Q (F0 m (pc + 3) ls rest)) : W p l e R s m args below meth c H locs cells slots Q (F0 m pc ls (.int x :: rest)) := lv_if_le hx hb hdg ht (fun h => kt (t_le h px (by decide))) (fun h => kf (t_nle h px (by decide)))
theorem q_if_eq (hx : p.tables.exec = Jvm.exec) (hb : c.code = cc) {x : Int32} {a : Int} {off : Int} {tgt : Nat} (hdg : decode cc pc = .ok (.ifCond .eq off, 3)) (ht : (pc : Int) + off = (tgt : Int)) (px : x.toInt = a) (kt : x = 0 → a = 0 → W p l e R s m args below meth c H locs cells slots Q (F0 m tgt ls rest)) (kf : ¬ x = 0 → a ≠ 0 → W p l e R s m args below meth c H locs cells slots Q (F0 m (pc + 3) ls rest)) : W p l e R s m args below meth c H locs cells slots Q (F0 m pc ls (.int x :: rest)) := lv_if_eq hx hb hdg ht (fun h => kt h (t_eq h px (by decide))) (fun h => kf h (t_neq h px (by decide)))
theorem q_if_ne (hx : p.tables.exec = Jvm.exec) (hb : c.code = cc) {x : Int32} {a : Int} {off : Int} {tgt : Nat} (hdg : decode cc pc = .ok (.ifCond .ne off, 3)) (ht : (pc : Int) + off = (tgt : Int)) (px : x.toInt = a) (kt : ¬ x = 0 → a ≠ 0 → W p l e R s m args below meth c H locs cells slots Q (F0 m tgt ls rest)) (kf : x = 0 → a = 0 → W p l e R s m args below meth c H locs cells slots Q (F0 m (pc + 3) ls rest)) : W p l e R s m args below meth c H locs cells slots Q (F0 m pc ls (.int x :: rest)) := lv_if_ne hx hb hdg ht (fun h => kt h (t_neq h px (by decide))) (fun h => kf h (t_eq h px (by decide)))
end Wrap
def uA (a : Nat → Nat) (k v : Nat) : Nat → Nat := fun j => if j = k then v else a j
def uF (I : Nat → Nat → Int32) (c k : Nat) (x : Int32) : Nat → Nat → Int32 := fun c' => if c' = c then upd (I c) k x else I c'
def uR (I : Nat → Nat → Int32) (c : Nat) (f : Nat → Int32) : Nat → Nat → Int32 := fun c' => if c' = c then f else I c'
def vF (J : Nat → Nat → Int64) (c k : Nat) (x : Int64) : Nat → Nat → Int64 := fun c' => if c' = c then vp_updL (J c) k x else J c'
def vR (J : Nat → Nat → Int64) (c : Nat) (f : Nat → Int64) : Nat → Nat → Int64 := fun c' => if c' = c then f else J c'
theorem upd_all {P : Int32 → Prop} {f : Nat → Int32} {k : Nat} {x : Int32} (h : ∀ j, P (f j)) (hx : P x) : ∀ j, P (upd f k x j) := fun j => by
  unfold upd
  split
  · exact hx
  · exact h j
theorem cpy_all {P : Int32 → Prop} {f f' : Nat → Int32} {a b n : Nat} (h : ∀ j, P (f j)) (h' : ∀ j, P (f' j)) : ∀ j, P (va_cpy f f' a b n j) := fun j => by
  unfold va_cpy
  split
  · exact h _
  · exact h' _
theorem shl1 {x z : Int32} (h : z = x <<< ((1 : Int32) &&& 31)) (h1 : 0 ≤ x.toInt ∧ x.toInt ≤ 1000000) : z.toInt = 2 * x.toInt := by
  obtain ⟨j, hj, e⟩ := nI_of (x := x) (fun q => by have := t_lt q rfl (by decide : (0 : Int32).toInt = 0); omega)
  subst e
  rw [nI_toInt hj] at h1
  rw [h, pk_shlN ((1 : Int32) &&& 31) 1 (by decide) (by omega), nI_toInt (by omega), nI_toInt hj]
  omega
theorem empty_TI {I I' : Nat → Nat → Int32} (h : TI I) (h0 : (I' 0 0).toInt = 0) (h1 : ∀ j : Nat, 0 ≤ (I' 1 j).toInt ∧ (I' 1 j).toInt ≤ 63) (h3 : (I' 1 3).toInt = 32) (h4 : (I' 1 4).toInt = 25) (e2 : I' 2 = I 2) (e3 : I' 3 = I 3) (e4 : I' 4 = I 4) (e5 : I' 5 = I 5) (e6 : I' 6 = I 6) : TI I' := by
  obtain ⟨a, b, c, d, e, f, g, k, i⟩ := h
  refine ⟨by omega, h1, by omega, by omega, ?_, ?_, ?_, ?_, ?_⟩
  · rw [e2]; exact e
  · rw [e3]; exact f
  · rw [e4]; exact g
  · rw [e5]; exact k
  · rw [e6]; exact i
theorem copy_TI {I V : Nat → Nat → Int32} (h : TI V) (h0 : I 0 0 = V 0 0) (e1 : ∀ j, j < 5 → I 1 j = V 1 j) (x1 : ∀ j : Nat, 0 ≤ (I 1 j).toInt ∧ (I 1 j).toInt ≤ 63) (x2 : ∀ j : Nat, 0 ≤ (I 2 j).toInt ∧ (I 2 j).toInt ≤ 6) (x3 : ∀ j : Nat, 0 ≤ (I 3 j).toInt ∧ (I 3 j).toInt ≤ 3) (x4 : ∀ j : Nat, 0 ≤ (I 4 j).toInt ∧ (I 4 j).toInt ≤ 4) (x5 : ∀ j : Nat, 0 ≤ (I 5 j).toInt ∧ (I 5 j).toInt ≤ 31) (x6 : ∀ j : Nat, 0 ≤ (I 6 j).toInt ∧ (I 6 j).toInt ≤ 63) : TI I := by
  obtain ⟨a, b, c, d, e, f, g, k, i⟩ := h
  exact ⟨by rw [h0]; exact a, x1, by rw [e1 3 (by decide)]; exact c, by rw [e1 4 (by decide)]; exact d, x2, x3, x4, x5, x6⟩
theorem cpy_in {f g : Nat → Int32} {n j : Nat} (h : j < n) : va_cpy f g 0 0 n j = f j := sb_cpy0 h
