import java.math.BigInteger;

/** Promises 29 to 36: drift, sheets, counts, the digest. */
final class SheetsTests extends Answers {
    private SheetsTests() {
    }

    /** As many bars of a profile of 1000 grams as there are numbers, which SHEET 0 has as ints. */
    private static BilletBars weighed(int... weights) {
        BilletBars x = Made.metres(new int[weights.length]);
        x.sheet(0, 2, weights.length);
        for (int i = 0; i < weights.length; i++) {
            x.put(0, 2, i, weights[i]);
        }
        return x;
    }

    /** SHEET 0 with 2 bytes, 1 with 3 shorts, 2 with 200 ints; 3 is LOST. Each first item is 7. */
    private static BilletBars threeForms() {
        BilletBars x = new BilletBars();
        x.sheet(0, 0, 2);
        x.sheet(1, 1, 3);
        x.sheet(2, 2, 200);
        for (int s = 0; s <= 2; s++) {
            x.put(s, s, 0, 7);
        }
        return x;
    }

    /** SHEET 0 has ints 10, 11, 12, 13, 14 and SHEET 1 has ints 20, 21, 22. */
    private static BilletBars twoRows() {
        BilletBars x = new BilletBars();
        x.sheet(0, 2, 5);
        x.sheet(1, 2, 3);
        for (int i = 0; i < 5; i++) {
            x.put(0, 2, i, 10 + i);
        }
        for (int i = 0; i < 3; i++) {
            x.put(1, 2, i, 20 + i);
        }
        return x;
    }

    private static void dueItems(BilletBars x, int s, int... want) {
        dueRow("get(" + s + ", 2, i)", i -> x.get(s, 2, i), want);
    }

    /** count(6) after a call, which is made as it is handed over. */
    private static int findingAfter(BilletBars x, int answer) {
        return x.count(6);
    }

    // ---- promise 29: drift

    static void promise29_drift_barsMustBeThere() {
        dueAll("drift(v, v)", v -> new BilletBars().drift(v, v), -100000, LEAST, -1, 0, 1, MOST);
        dueOutside("drift(v, 2)", v -> weighed(1, 2, 3).drift(v, 2), -1, 3, -100000);
        dueOutside("drift(0, v)", v -> weighed(1, 2, 3).drift(0, v), -1, 3, -100000);
        due("drift(least, most)", weighed(1, 2, 3).drift(LEAST, MOST), -100000);
        due("drift(0, 2)", weighed(1001, 1002, 1003).drift(0, 2), 2);
    }

    static void promise29_drift_ofNoBarsIsBad() {
        due("drift(1, 0)", weighed(1, 2, 3).drift(1, 0), -100000);
        due("drift(2, 1)", weighed(1, 2, 3).drift(2, 1), -100000);
    }

    static void promise29_drift_ofOneBar() {
        BilletBars x = weighed(1001, 998, 1000);
        dueRow("drift(i, i)", i -> x.drift(i, i), 1, -2, 0, -100000);
    }

    static void promise29_drift_fromItoJBothIncluded() {
        BilletBars x = weighed(1001, 1003, 1005, 1007);
        due("drift(0, 3)", x.drift(0, 3), 4);
        due("drift(1, 3)", x.drift(1, 3), 5);
        due("drift(0, 2)", x.drift(0, 2), 3);
        due("drift(1, 2)", x.drift(1, 2), 4);
    }

    static void promise29_drift_weightIs1To20000() {
        dueRow("drift(0, 0) of a weight", k -> weighed(new int[] {1, 2, 19999, 20000}[k]).drift(0, 0),
            -999, -998, 18999, 19000);
        dueAll("drift(0, 0) of a weight", v -> weighed(v).drift(0, 0), -100001, LEAST, -1, 0, 20001, MOST);
    }

    static void promise29_drift_notWhenTheSheetIsLost() {
        BilletBars x = Made.metres(2);
        due("drift(0, 0) at first", x.drift(0, 0), -100001);
        x.sheet(0, 2, 1);
        x.put(0, 2, 0, 1000);
        due("drift(0, 0)", x.drift(0, 0), 0);
        x.lose(0);
        due("drift(0, 0) of a lost one", x.drift(0, 0), -100001);
    }

    static void promise29_drift_notWhenTheItemIsNotThere() {
        BilletBars x = Made.metres(2, 2);
        x.sheet(0, 2, 0);
        due("drift(0, 0) of no items", x.drift(0, 0), -100001);
        x.sheet(0, 2, 1);
        x.put(0, 2, 0, 1000);
        due("drift(0, 0) of one item", x.drift(0, 0), 0);
        due("drift(1, 1) of one item", x.drift(1, 1), -100001);
        x.sheet(0, 2, 2);
        x.put(0, 2, 1, 1009);
        due("drift(1, 1) of two items", x.drift(1, 1), 9);
        x.sheet(0, 2, 1);
        due("drift(1, 1) of one item again", x.drift(1, 1), -100001);
    }

    static void promise29_drift_badGoesAheadOfNot() {
        BilletBars x = Made.metres(2);
        due("drift(0, 1)", x.drift(0, 1), -100000);
        due("drift(1, 0)", x.drift(1, 0), -100000);
        due("drift(0, 0)", x.drift(0, 0), -100001);
    }

    static void promise29_drift_byThoseWithAWeightAlone() {
        due("drift(0, 3)", weighed(0, 1010, 20001, 1020).drift(0, 3), 15);
        due("drift(0, 3)", weighed(0, 0, 0, 1020).drift(0, 3), 20);
        due("drift(0, 3)", weighed(0, 0, 0, 0).drift(0, 3), -100001);
    }

    static void promise29_drift_isRoundedDown() {
        due("3 by 2", weighed(1001, 1002).drift(0, 1), 1);
        due("-3 by 2", weighed(999, 998).drift(0, 1), -2);
        due("1 by 3", weighed(1001, 1000, 1000).drift(0, 2), 0);
        due("-1 by 3", weighed(999, 1000, 1000).drift(0, 2), -1);
        due("-4 by 2", weighed(998, 998).drift(0, 1), -2);
        due("-5 by 3", weighed(999, 998, 998).drift(0, 2), -2);
    }

    static void promise29_drift_itemsOfEachForm() {
        BilletBars x = Made.metres(2);
        x.sheet(0, 0, 1);
        x.put(0, 0, 0, 127);
        due("drift(0, 0) of bytes", x.drift(0, 0), -873);
        x.put(0, 0, 0, 128);
        due("drift(0, 0) of -128", x.drift(0, 0), -100001);
        x.sheet(0, 1, 1);
        x.put(0, 1, 0, 20000);
        due("drift(0, 0) of shorts", x.drift(0, 0), 19000);
        x.put(0, 1, 0, 65536 + 1001);
        due("drift(0, 0) of the lowest bits", x.drift(0, 0), 1);
    }

    static void promise29_drift_ofUnlikeProfiles() {
        BilletBars x = Made.twoRecipes();
        x.profile(0, 10, 0, 300);
        x.die(2, 50);
        x.warm(2);
        x.pass(3);
        x.press(2, 200);
        x.press(0, 200);
        x.sheet(0, 1, 2);
        x.put(0, 1, 0, 305);
        x.put(0, 1, 1, 1011);
        due("drift(0, 0)", x.drift(0, 0), 5);
        due("drift(1, 1)", x.drift(1, 1), 11);
        due("drift(0, 1)", x.drift(0, 1), 8);
    }

    static void promise29_drift_ofSheet0Alone() {
        BilletBars x = Made.metres(2);
        for (int s = 1; s <= 3; s++) {
            x.sheet(s, 2, 1);
            x.put(s, 2, 0, 1000);
        }
        due("drift(0, 0)", x.drift(0, 0), -100001);
    }

    static void promise29_drift_of200Bars() {
        BilletBars x = Made.fullOfBars();
        x.sheet(0, 2, 200);
        x.put(0, 2, 0, 20000);
        for (int n = 1; n < 200; n *= 2) {
            x.copy(0, 0, 0, n, Math.min(n, 200 - n));
        }
        due("get(0, 2, 199)", x.get(0, 2, 199), 20000);
        due("drift(0, 199)", x.drift(0, 199), 19000);
        due("drift(199, 199)", x.drift(199, 199), 19000);
        due("drift(0, 200)", x.drift(0, 200), -100000);
    }

    static void promise29_drift_badAndNotChangeNothing() {
        dueUnchanged("drift(0, 7)", Made::busy, x -> x.drift(0, 7), -100000);
        dueUnchanged("drift(-1, 0)", Made::busy, x -> x.drift(-1, 0), -100000);
        dueUnchanged("drift(1, 0)", Made::busy, x -> x.drift(1, 0), -100000);
        dueUnchanged("drift(6, 6)", Made::busy, x -> x.drift(6, 6), -100001);
        dueUnchanged("drift(0, 1), lost", Made::sixBars, x -> x.drift(0, 1), -100001);
    }

    // ---- promise 30: sheet

    static void promise30_sheet_numberIs0To3() {
        dueRange("sheet(v, 0, 5)", v -> new BilletBars().sheet(v, 0, 5), 0, 3, 5);
    }

    static void promise30_sheet_formIs0To2() {
        dueRange("sheet(0, v, 5)", v -> new BilletBars().sheet(0, v, 5), 0, 2, 5);
    }

    static void promise30_sheet_itemsAre0To200() {
        for (int form = 0; form <= 2; form++) {
            int f = form;
            for (int n : new int[] {0, 1, 199, 200}) {
                due("sheet(3, " + form + ", " + n + ")", new BilletBars().sheet(3, form, n), n);
            }
            dueAll("sheet(3, " + form + ", n)", n -> new BilletBars().sheet(3, f, n), BAD, 201, 202, 1 << 30, MOST);
        }
    }

    static void promise30_sheet_below0ItemsIsSize() {
        dueAll("sheet(0, 0, n)", n -> new BilletBars().sheet(0, 0, n), SIZE, -1, -2, LEAST + 1, LEAST);
        BilletBars x = new BilletBars();
        x.sheet(0, 0, -1);
        due("count(6)", x.count(6), 5);
        due("lose(0)", x.lose(0), NULL);
    }

    static void promise30_sheet_badGoesAheadOfSize() {
        dueBad("sheet(v, 0, -1)", v -> new BilletBars().sheet(v, 0, -1), -1, 4);
        dueBad("sheet(0, v, -1)", v -> new BilletBars().sheet(0, v, -1), -1, 3);
        BilletBars x = new BilletBars();
        x.sheet(4, 0, -1);
        x.sheet(0, 3, -1);
        due("count(6)", x.count(6), 0);
    }

    static void promise30_sheet_ofNoItemsIsNotLost() {
        BilletBars x = new BilletBars();
        x.sheet(0, 1, 0);
        due("put(0, 1, 0, 1)", x.put(0, 1, 0, 1), INDEX);
        due("put(0, 0, 0, 1)", x.put(0, 0, 0, 1), CAST);
        due("copy(0, 0, 0, 0, 0)", x.copy(0, 0, 0, 0, 0), 1);
        due("lose(0)", x.lose(0), 0);
    }

    static void promise30_sheet_itemsAre0AtFirst() {
        BilletBars x = new BilletBars();
        x.sheet(1, 2, 200);
        for (int i = 0; i < 200; i++) {
            due("get(1, 2, " + i + ")", x.get(1, 2, i), 0);
        }
    }

    static void promise30_sheet_isANewRowEachTime() {
        BilletBars x = new BilletBars();
        x.sheet(1, 2, 200);
        x.put(1, 2, 0, 5);
        x.put(1, 2, 199, 6);
        x.sheet(1, 2, 1);
        due("get(1, 2, 0)", x.get(1, 2, 0), 0);
        due("get(1, 2, 1)", x.get(1, 2, 1), LEAST);
        x.sheet(1, 2, 200);
        due("get(1, 2, 199)", x.get(1, 2, 199), 0);
        x.put(1, 2, 0, 5);
        x.sheet(1, 2, 200);
        due("get(1, 2, 0)", x.get(1, 2, 0), 0);
    }

    static void promise30_sheet_hasTheNewForm() {
        BilletBars x = threeForms();
        due("sheet(0, 2, 2)", x.sheet(0, 2, 2), 2);
        due("put(0, 0, 0, 1)", x.put(0, 0, 0, 1), CAST);
        due("put(0, 2, 0, 1000)", x.put(0, 2, 0, 1000), 1);
        due("get(0, 2, 0)", x.get(0, 2, 0), 1000);
    }

    static void promise30_sheet_leavesTheOthers() {
        BilletBars x = threeForms();
        x.sheet(1, 0, 200);
        due("get(0, 0, 0)", x.get(0, 0, 0), 7);
        due("get(2, 2, 0)", x.get(2, 2, 0), 7);
        due("lose(3)", x.lose(3), NULL);
    }

    static void promise30_sheet_badChangesNothing() {
        dueUnchanged("sheet(0, 1, 201)", Made::busy, x -> x.sheet(0, 1, 201), BAD);
        dueUnchanged("sheet(0, 3, 1)", Made::busy, x -> x.sheet(0, 3, 1), BAD);
        dueUnchanged("sheet(0, -1, 1)", Made::busy, x -> x.sheet(0, -1, 1), BAD);
        dueUnchanged("sheet(4, 0, 1)", Made::busy, x -> x.sheet(4, 0, 1), BAD);
        dueUnchanged("sheet(-1, 0, 1)", Made::busy, x -> x.sheet(-1, 0, 1), BAD);
    }

    static void promise30_sheet_sizeChangesCount6Alone() {
        dueFinding("sheet(0, 2, -1)", Made::busy, x -> x.sheet(0, 2, -1), SIZE, 5);
        dueFinding("sheet(3, 0, least)", Made::busy, x -> x.sheet(3, 0, LEAST), SIZE, 5);
    }

    // ---- promise 31: lose

    static void promise31_lose_numberIs0To3() {
        dueRow("lose(v)", v -> threeForms().lose(v), 2, 3, 200, NULL, BAD);
        dueBad("lose(v)", v -> threeForms().lose(v), -1, 4);
    }

    static void promise31_lose_tellsHowManyItemsItHad() {
        for (int n : new int[] {0, 1, 199, 200}) {
            BilletBars x = new BilletBars();
            x.sheet(3, 1, n);
            due("lose(3)", x.lose(3), n);
        }
    }

    static void promise31_lose_nullWhenLost() {
        BilletBars x = threeForms();
        due("lose(3) at first", x.lose(3), NULL);
        due("count(6)", x.count(6), 1);
        x.lose(0);
        due("lose(0) again", x.lose(0), NULL);
        due("put(0, 0, 0, 1)", x.put(0, 0, 0, 1), NULL);
        due("get(0, 0, 0)", x.get(0, 0, 0), LEAST);
        due("copy(0, 0, 0, 0, 0)", x.copy(0, 0, 0, 0, 0), NULL);
    }

    static void promise31_lose_whatItHadDoesNotComeBack() {
        BilletBars x = threeForms();
        x.lose(2);
        x.sheet(2, 2, 200);
        due("get(2, 2, 0)", x.get(2, 2, 0), 0);
    }

    static void promise31_lose_leavesTheOthers() {
        BilletBars x = threeForms();
        x.lose(1);
        due("get(0, 0, 0)", x.get(0, 0, 0), 7);
        due("get(2, 2, 0)", x.get(2, 2, 0), 7);
    }

    static void promise31_lose_badChangesNothing() {
        dueUnchanged("lose(4)", Made::busy, x -> x.lose(4), BAD);
        dueUnchanged("lose(-1)", Made::busy, x -> x.lose(-1), BAD);
    }

    static void promise31_lose_nullChangesCount6Alone() {
        dueFinding("lose(3)", Made::busy, x -> x.lose(3), NULL, 1);
        dueFinding("lose(3)", Made::crowded, x -> x.lose(3), NULL, 1);
    }

    // ---- promise 32: put

    static void promise32_put_sheetIs0To3() {
        dueRow("put(v, 0, 0, 1)", v -> threeForms().put(v, 0, 0, 1), 1, CAST, CAST, NULL, BAD);
        dueBad("put(v, 0, 0, 1)", v -> threeForms().put(v, 0, 0, 1), -1, 4);
    }

    static void promise32_put_formIs0To2() {
        dueRow("put(1, v, 0, 1)", v -> threeForms().put(1, v, 0, 1), CAST, 1, CAST, BAD);
        dueBad("put(1, v, 0, 1)", v -> threeForms().put(1, v, 0, 1), -1, 3);
    }

    static void promise32_put_itemIs0ToTheLast() {
        dueRow("put(0, 0, v, 1)", v -> threeForms().put(0, 0, v, 1), 1, 1, INDEX);
        dueOutside("put(0, 0, v, 1)", v -> threeForms().put(0, 0, v, 1), -1, 2, INDEX);
        dueRow("put(1, 1, v, 1)", v -> threeForms().put(1, 1, v, 1), 1, 1, 1, INDEX);
        dueAll("put(2, 2, v, 1)", v -> threeForms().put(2, 2, v, 1), 1, 0, 1, 198, 199);
        dueOutside("put(2, 2, v, 1)", v -> threeForms().put(2, 2, v, 1), -1, 200, INDEX);
    }

    static void promise32_put_badGoesAheadOfFindings() {
        due("put(3, 3, -1, 1)", threeForms().put(3, 3, -1, 1), BAD);
        due("put(3, -1, 0, 1)", threeForms().put(3, -1, 0, 1), BAD);
        due("put(0, 3, 9, 1)", threeForms().put(0, 3, 9, 1), BAD);
        due("put(4, 0, -1, 1)", threeForms().put(4, 0, -1, 1), BAD);
        BilletBars x = threeForms();
        x.put(3, 3, -1, 1);
        due("count(6)", x.count(6), 0);
    }

    static void promise32_put_nullGoesAheadOfCastAndIndex() {
        for (int form = 0; form <= 2; form++) {
            due("put(3, " + form + ", 9, 1)", threeForms().put(3, form, 9, 1), NULL);
            due("put(3, " + form + ", -1, 1)", threeForms().put(3, form, -1, 1), NULL);
        }
    }

    static void promise32_put_castGoesAheadOfIndex() {
        due("put(0, 1, 2, 1)", threeForms().put(0, 1, 2, 1), CAST);
        due("put(0, 2, -1, 1)", threeForms().put(0, 2, -1, 1), CAST);
        due("put(2, 0, 200, 1)", threeForms().put(2, 0, 200, 1), CAST);
    }

    private static int kept(int form, int v) {
        BilletBars x = threeForms();
        due("put(" + form + ", " + form + ", 1, " + v + ")", x.put(form, form, 1, v), 1);
        return x.get(form, form, 1);
    }

    static void promise32_put_bytesKeepTheLowest8Bits() {
        int[] put = {127, 128, 255, 256, -128, -129, -1, 0x1280, LEAST, MOST};
        dueRow("get of a byte", k -> kept(0, put[k]), 127, -128, -1, 0, -128, 127, -1, -128, 0, -1);
    }

    static void promise32_put_shortsKeepTheLowest16Bits() {
        int[] put = {32767, 32768, 65535, 65536, -32768, -32769, -1, 0x12348000, LEAST, MOST, 128, 255};
        dueRow("get of a short", k -> kept(1, put[k]), 32767, -32768, -1, 0, -32768, 32767, -1, -32768, 0, -1, 128, 255);
    }

    static void promise32_put_intsKeepAllBits() {
        int[] put = {LEAST, MOST, -1, 32768, 65536, -32769};
        dueRow("get of an int", k -> kept(2, put[k]), put);
    }

    static void promise32_put_leavesTheOtherItems() {
        BilletBars x = new BilletBars();
        for (int s = 0; s <= 3; s++) {
            x.sheet(s, 2, 200);
        }
        x.put(1, 2, 0, 5);
        x.put(1, 2, 199, 6);
        due("get(0, 2, 199)", x.get(0, 2, 199), 0);
        due("get(1, 2, 0)", x.get(1, 2, 0), 5);
        due("get(1, 2, 1)", x.get(1, 2, 1), 0);
        due("get(1, 2, 198)", x.get(1, 2, 198), 0);
        due("get(1, 2, 199)", x.get(1, 2, 199), 6);
        due("get(2, 2, 0)", x.get(2, 2, 0), 0);
    }

    static void promise32_put_badChangesNothing() {
        dueUnchanged("put(4, 0, 0, 1)", Made::busy, x -> x.put(4, 0, 0, 1), BAD);
        dueUnchanged("put(-1, 0, 0, 1)", Made::busy, x -> x.put(-1, 0, 0, 1), BAD);
        dueUnchanged("put(0, 3, 0, 1)", Made::busy, x -> x.put(0, 3, 0, 1), BAD);
        dueUnchanged("put(0, -1, 0, 1)", Made::busy, x -> x.put(0, -1, 0, 1), BAD);
    }

    static void promise32_put_findingsChangeCount6Alone() {
        dueFinding("put(3, 0, 0, 1)", Made::busy, x -> x.put(3, 0, 0, 1), NULL, 1);
        dueFinding("put(0, 2, 0, 1)", Made::busy, x -> x.put(0, 2, 0, 1), CAST, 3);
        dueFinding("put(0, 1, 6, 1)", Made::busy, x -> x.put(0, 1, 6, 1), INDEX, 2);
        dueFinding("put(0, 1, -1, 1)", Made::busy, x -> x.put(0, 1, -1, 1), INDEX, 2);
    }

    // ---- promise 33: get

    private static int findingOfGet(int s, int form, int i) {
        BilletBars x = threeForms();
        due("get(" + s + ", " + form + ", " + i + ")", x.get(s, form, i), LEAST);
        return x.count(6);
    }

    static void promise33_get_sheetIs0To3() {
        dueRow("get(v, v, 0)", v -> threeForms().get(v, v, 0), 7, 7, 7, LEAST, LEAST);
        dueOutside("count(6) after get(v, 0, 0)", v -> findingOfGet(v, 0, 0), -1, 4, 0);
    }

    static void promise33_get_formIs0To2() {
        dueRow("get(v, v, 0)", v -> threeForms().get(v, v, 0), 7, 7, 7);
        dueOutside("count(6) after get(1, v, 0)", v -> findingOfGet(1, v, 0), -1, 3, 0);
    }

    static void promise33_get_itemIs0ToTheLast() {
        dueRow("get(2, 2, v)", v -> threeForms().get(2, 2, v), 7, 0);
        due("get(2, 2, 199)", threeForms().get(2, 2, 199), 0);
        dueOutside("count(6) after get(2, 2, v)", v -> findingOfGet(2, 2, v), -1, 200, 2);
        dueOutside("count(6) after get(0, 0, v)", v -> findingOfGet(0, 0, v), -1, 2, 2);
    }

    static void promise33_get_badGoesAheadOfFindings() {
        due("count(6) after get(3, 3, -1)", findingOfGet(3, 3, -1), 0);
        due("count(6) after get(4, 0, -1)", findingOfGet(4, 0, -1), 0);
        due("count(6) after get(0, -1, 9)", findingOfGet(0, -1, 9), 0);
    }

    static void promise33_get_nullGoesAheadOfCastAndIndex() {
        due("count(6) after get(3, 0, 0)", findingOfGet(3, 0, 0), 1);
        due("count(6) after get(3, 1, -1)", findingOfGet(3, 1, -1), 1);
        due("count(6) after get(3, 2, 200)", findingOfGet(3, 2, 200), 1);
    }

    static void promise33_get_castGoesAheadOfIndex() {
        due("count(6) after get(0, 1, 0)", findingOfGet(0, 1, 0), 3);
        due("count(6) after get(0, 1, 2)", findingOfGet(0, 1, 2), 3);
        due("count(6) after get(2, 0, -1)", findingOfGet(2, 0, -1), 3);
    }

    static void promise33_get_itemsThatLookLikeRefusalsAreNone() {
        BilletBars x = threeForms();
        x.put(2, 2, 5, LEAST);
        x.put(2, 2, 6, BAD);
        due("get(2, 2, 5)", x.get(2, 2, 5), LEAST);
        due("get(2, 2, 6)", x.get(2, 2, 6), BAD);
        due("count(6)", x.count(6), 0);
    }

    static void promise33_get_changesNothing() {
        dueUnchanged("get(0, 1, 0)", Made::busy, x -> x.get(0, 1, 0), 990);
        dueUnchanged("get(4, 0, 0)", Made::busy, x -> x.get(4, 0, 0), LEAST);
        dueUnchanged("get(0, 3, 0)", Made::busy, x -> x.get(0, 3, 0), LEAST);
    }

    static void promise33_get_findingsChangeCount6Alone() {
        dueFinding("get(3, 0, 0)", Made::busy, x -> x.get(3, 0, 0), LEAST, 1);
        dueFinding("get(0, 2, 0)", Made::busy, x -> x.get(0, 2, 0), LEAST, 3);
        dueFinding("get(0, 1, 6)", Made::busy, x -> x.get(0, 1, 6), LEAST, 2);
    }

    // ---- promise 34: copy

    static void promise34_copy_sheetsAre0To3() {
        dueRow("copy(v, 0, 2, 0, 1)", v -> threeForms().copy(v, 0, 2, 0, 1), STORE, STORE, 1, NULL, BAD);
        dueBad("copy(v, 0, 2, 0, 1)", v -> threeForms().copy(v, 0, 2, 0, 1), -1, 4);
        dueRow("copy(2, 0, v, 0, 1)", v -> threeForms().copy(2, 0, v, 0, 1), STORE, STORE, 1, NULL, BAD);
        dueBad("copy(2, 0, v, 0, 1)", v -> threeForms().copy(2, 0, v, 0, 1), -1, 4);
    }

    static void promise34_copy_badGoesAheadOfFindings() {
        BilletBars x = threeForms();
        due("copy(3, -1, 4, 0, 1)", x.copy(3, -1, 4, 0, 1), BAD);
        due("copy(-1, 0, 3, 0, -1)", x.copy(-1, 0, 3, 0, -1), BAD);
        due("copy(4, 0, 0, 9, 1)", x.copy(4, 0, 0, 9, 1), BAD);
        due("count(6)", x.count(6), 0);
    }

    static void promise34_copy_nullWhenOneOfTheSheetsIsLost() {
        due("copy(3, 0, 0, 0, 0)", threeForms().copy(3, 0, 0, 0, 0), NULL);
        due("copy(0, 0, 3, 0, 0)", threeForms().copy(0, 0, 3, 0, 0), NULL);
        due("copy(3, 0, 3, 0, 0)", threeForms().copy(3, 0, 3, 0, 0), NULL);
    }

    static void promise34_copy_nullGoesAheadOfStoreAndIndex() {
        for (int s = 0; s <= 2; s++) {
            due("copy(3, -1, " + s + ", 0, 1)", threeForms().copy(3, -1, s, 0, 1), NULL);
            due("copy(" + s + ", 0, 3, 0, 201)", threeForms().copy(s, 0, 3, 0, 201), NULL);
        }
    }

    static void promise34_copy_storeWhenFormsAreUnlike() {
        due("copy(0, 0, 1, 0, 0)", threeForms().copy(0, 0, 1, 0, 0), STORE);
        due("copy(1, 0, 0, 0, 1)", threeForms().copy(1, 0, 0, 0, 1), STORE);
        due("copy(1, 0, 2, 0, 1)", threeForms().copy(1, 0, 2, 0, 1), STORE);
        due("copy(2, 0, 0, 0, 1)", threeForms().copy(2, 0, 0, 0, 1), STORE);
    }

    static void promise34_copy_storeGoesAheadOfIndex() {
        due("copy(0, -1, 1, 0, 1)", threeForms().copy(0, -1, 1, 0, 1), STORE);
        due("copy(0, 0, 2, 0, -1)", threeForms().copy(0, 0, 2, 0, -1), STORE);
        due("copy(0, 0, 1, 9, 9)", threeForms().copy(0, 0, 1, 9, 9), STORE);
    }

    static void promise34_copy_indexBelow0() {
        due("copy(0, -1, 1, 0, 1)", twoRows().copy(0, -1, 1, 0, 1), INDEX);
        due("copy(0, 0, 1, -1, 1)", twoRows().copy(0, 0, 1, -1, 1), INDEX);
        due("copy(0, 0, 1, 0, -1)", twoRows().copy(0, 0, 1, 0, -1), INDEX);
        due("copy(0, -1, 1, 0, 0)", twoRows().copy(0, -1, 1, 0, 0), INDEX);
        due("copy(0, 0, 1, -1, 0)", twoRows().copy(0, 0, 1, -1, 0), INDEX);
        due("copy(0, 3, 1, 3, -1)", twoRows().copy(0, 3, 1, 3, -1), INDEX);
        due("copy(0, least, 1, least, least)", twoRows().copy(0, LEAST, 1, LEAST, LEAST), INDEX);
    }

    static void promise34_copy_indexWhenThereAreNotSoMany() {
        dueRow("copy(0, i, 1, 0, 2)", i -> twoRows().copy(0, i, 1, 0, 2), 1, 1, 1, 1, INDEX, INDEX, INDEX);
        dueRow("copy(0, 0, 1, j, 2)", j -> twoRows().copy(0, 0, 1, j, 2), 1, 1, INDEX, INDEX, INDEX);
        dueRow("copy(0, 0, 1, 0, n)", n -> twoRows().copy(0, 0, 1, 0, n), 1, 1, 1, 1, INDEX, INDEX, INDEX);
        dueRow("copy(1, 0, 0, 0, n)", n -> twoRows().copy(1, 0, 0, 0, n), 1, 1, 1, 1, INDEX, INDEX, INDEX);
        dueRow("copy(0, 0, 0, 0, n)", n -> twoRows().copy(0, 0, 0, 0, n), 1, 1, 1, 1, 1, 1, INDEX);
    }

    static void promise34_copy_sumsThatWrapAreNotSoMany() {
        due("copy(0, most, 1, 0, 1)", twoRows().copy(0, MOST, 1, 0, 1), INDEX);
        due("copy(0, 0, 1, most, 1)", twoRows().copy(0, 0, 1, MOST, 1), INDEX);
        due("copy(0, 1, 1, 0, most)", twoRows().copy(0, 1, 1, 0, MOST), INDEX);
        due("copy(0, 0, 1, 1, most)", twoRows().copy(0, 0, 1, 1, MOST), INDEX);
        due("copy(0, most, 1, most, most)", twoRows().copy(0, MOST, 1, MOST, MOST), INDEX);
        due("copy(0, most, 0, most, most)", twoRows().copy(0, MOST, 0, MOST, MOST), INDEX);
    }

    static void promise34_copy_noItemsAtTheEnd() {
        due("copy(0, 5, 1, 3, 0)", twoRows().copy(0, 5, 1, 3, 0), 1);
        due("copy(0, 6, 1, 3, 0)", twoRows().copy(0, 6, 1, 3, 0), INDEX);
        due("copy(0, 5, 1, 4, 0)", twoRows().copy(0, 5, 1, 4, 0), INDEX);
        due("copy(0, most, 1, 0, 0)", twoRows().copy(0, MOST, 1, 0, 0), INDEX);
        BilletBars x = twoRows();
        x.copy(0, 0, 1, 0, 0);
        dueItems(x, 1, 20, 21, 22);
    }

    static void promise34_copy_theItemsComeToTheOtherSheet() {
        BilletBars x = twoRows();
        due("copy(0, 3, 1, 1, 2)", x.copy(0, 3, 1, 1, 2), 1);
        dueItems(x, 0, 10, 11, 12, 13, 14);
        dueItems(x, 1, 20, 13, 14);
        due("copy(1, 0, 0, 2, 3)", x.copy(1, 0, 0, 2, 3), 1);
        dueItems(x, 0, 10, 11, 20, 13, 14);
    }

    static void promise34_copy_withinASheetAsTheyWere() {
        BilletBars x = twoRows();
        due("copy(0, 0, 0, 1, 4)", x.copy(0, 0, 0, 1, 4), 1);
        dueItems(x, 0, 10, 10, 11, 12, 13);
        BilletBars y = twoRows();
        due("copy(0, 1, 0, 0, 4)", y.copy(0, 1, 0, 0, 4), 1);
        dueItems(y, 0, 11, 12, 13, 14, 14);
        BilletBars z = twoRows();
        due("copy(0, 0, 0, 0, 5)", z.copy(0, 0, 0, 0, 5), 1);
        dueItems(z, 0, 10, 11, 12, 13, 14);
    }

    static void promise34_copy_ofBytesAndShorts() {
        BilletBars x = threeForms();
        x.put(0, 0, 0, -128);
        x.put(1, 1, 0, -32768);
        due("copy(0, 0, 0, 1, 1)", x.copy(0, 0, 0, 1, 1), 1);
        due("copy(1, 0, 1, 2, 1)", x.copy(1, 0, 1, 2, 1), 1);
        due("get(0, 0, 1)", x.get(0, 0, 1), -128);
        due("get(1, 1, 2)", x.get(1, 1, 2), -32768);
        due("get(1, 1, 1)", x.get(1, 1, 1), 0);
    }

    static void promise34_copy_200Items() {
        BilletBars x = new BilletBars();
        x.sheet(0, 2, 200);
        x.sheet(3, 2, 200);
        for (int i = 0; i < 200; i++) {
            x.put(0, 2, i, i + 1);
        }
        due("copy(0, 0, 3, 0, 201)", x.copy(0, 0, 3, 0, 201), INDEX);
        due("copy(0, 0, 3, 0, 200)", x.copy(0, 0, 3, 0, 200), 1);
        for (int i = 0; i < 200; i++) {
            due("get(3, 2, " + i + ")", x.get(3, 2, i), i + 1);
        }
    }

    static void promise34_copy_badChangesNothing() {
        dueUnchanged("copy(4, 0, 0, 0, 1)", Made::busy, x -> x.copy(4, 0, 0, 0, 1), BAD);
        dueUnchanged("copy(0, 0, -1, 0, 1)", Made::busy, x -> x.copy(0, 0, -1, 0, 1), BAD);
    }

    static void promise34_copy_findingsChangeCount6Alone() {
        dueFinding("copy(0, 0, 3, 0, 1)", Made::busy, x -> x.copy(0, 0, 3, 0, 1), NULL, 1);
        dueFinding("copy(0, 0, 1, 0, 1)", Made::busy, x -> x.copy(0, 0, 1, 0, 1), STORE, 4);
        dueFinding("copy(0, 0, 0, 3, 4)", Made::busy, x -> x.copy(0, 0, 0, 3, 4), INDEX, 2);
        dueFinding("copy(0, 3, 0, 0, 4)", Made::busy, x -> x.copy(0, 3, 0, 0, 4), INDEX, 2);
        dueFinding("copy(0, 0, 1, 0, 4)", SheetsTests::twoRows, x -> x.copy(0, 0, 1, 0, 4), INDEX, 2);
        dueFinding("copy(0, 4, 1, 0, 2)", SheetsTests::twoRows, x -> x.copy(0, 4, 1, 0, 2), INDEX, 2);
        dueFinding("copy(0, 0, 0, 1, -1)", Made::busy, x -> x.copy(0, 0, 0, 1, -1), INDEX, 2);
    }

    // ---- promise 35: count

    static void promise35_count_whatIs0To7() {
        dueRow("count(what)", what -> new BilletBars().count(what), 0, 0, 0, 0, 0, 0, 0, 0, BAD);
        dueBad("count(what)", what -> new BilletBars().count(what), -1, 8);
        dueBad("count(what)", what -> Made.busy().count(what), -1, 8);
    }

    static void promise35_count_ofEach() {
        BilletBars x = Made.sixBars();
        x.press(0, 200);
        x.law(1, 5000);
        x.press(0, 200);
        x.job(0, 1, 1);
        x.room(6000);
        x.age();
        x.lose(0);
        // 3 ticks and 8 shots; bar 7 has no goods, bars 0 and 2 are aged
        dueRow("count(what)", x::count, 2, 2, 11, 8, 1, 1, 1, 5);
    }

    static void promise35_count_whenAllPlacesAreTaken() {
        BilletBars x = Made.crowded();
        due("count(0)", x.count(0), 8);
        due("count(1)", x.count(1), 12);
        due("count(4)", x.count(4), 7);
        due("count(3)", Made.fullOfBars().count(3), 200);
        due("count(7)", Made.fullOfBars().count(7), 200);
    }

    static void promise35_count_theLatestFinding() {
        BilletBars x = twoRows();
        due("count(6) before any", x.count(6), 0);
        due("count(6) after sheet", findingAfter(x, x.sheet(0, 0, -1)), 5);
        due("count(6) after lose", findingAfter(x, x.lose(3)), 1);
        due("count(6) after put", findingAfter(x, x.put(0, 1, 0, 0)), 3);
        due("count(6) after get", findingAfter(x, x.get(0, 2, 5)), 2);
        x.sheet(2, 0, 1);
        due("count(6) after copy", findingAfter(x, x.copy(0, 0, 2, 0, 1)), 4);
    }

    static void promise35_count_theFindingStaysWithAllOtherAnswers() {
        BilletBars x = twoRows();
        x.put(0, 1, 0, 0);
        due("count(6) after a good put", findingAfter(x, x.put(0, 2, 0, 0)), 3);
        due("count(6) after a good get", findingAfter(x, x.get(0, 2, 0)), 3);
        due("count(6) after a good copy", findingAfter(x, x.copy(0, 0, 1, 0, 1)), 3);
        due("count(6) after a good sheet", findingAfter(x, x.sheet(3, 0, 1)), 3);
        due("count(6) after a good lose", findingAfter(x, x.lose(3)), 3);
        due("count(6) after a BAD", findingAfter(x, x.put(4, 0, 0, 0)), 3);
        due("count(6) after a NOT", findingAfter(x, x.age()), 3);
        due("count(6) after drift", findingAfter(x, x.drift(0, 0)), 3);
    }

    static void promise35_count_barsThatWait() {
        BilletBars x = Made.metres(2, 0, 3);
        due("count(7)", x.count(7), 2);
        x.room(2000);
        x.age();
        due("count(7)", x.count(7), 1);
        x.age();
        due("count(7)", x.count(7), 0);
    }

    static void promise35_count_changesNothing() {
        dueUnchanged("count(3)", Made::busy, x -> x.count(3), 7);
        dueUnchanged("count(8)", Made::busy, x -> x.count(8), BAD);
        dueUnchanged("count(-1)", Made::busy, x -> x.count(-1), BAD);
    }

    // ---- promise 36: digest

    /** 31 h and each part, beginning with 17, as numbers without an end that are cut to a long at last. */
    private static long chained(int... parts) {
        BigInteger h = BigInteger.valueOf(17);
        for (int part : parts) {
            h = h.multiply(BigInteger.valueOf(31)).add(BigInteger.valueOf(part));
        }
        return h.longValue();
    }

    static void promise36_digest_ofANewObject() {
        due("digest()", new BilletBars().digest(), chained(new int[14]));
    }

    static void promise36_digest_ofEachPartInItsPlace() {
        BilletBars x = Made.plain();
        x.profile(0, 10, 1, 1000);
        x.die(0, 50);
        x.die(1, 1);
        x.order(0, 700, 5);
        x.order(0, 300, 0);
        x.order(1, 900, 6);
        x.job(0, 1, 1);
        x.law(1, 100);
        x.law(2, 30);
        x.law(3, 7);
        Made.rewarm(x, 1);
        x.press(1, 200);
        x.age();
        x.cool(1);
        Made.rewarm(x, 0);
        x.press(0, 200);
        x.press(0, 201);
        due("digest()", x.digest(), chained(
            2, 2, 9, 3, 1, 1, 2,
            2, 5, 1, 1, NONE, 0,
            1800, 70, 0, 0, 1400, 470, 0, NONE, 1400, 473, 7, NONE,
            300, 90, 7, 4600, 1013, 6010, 601,
            1, 0, 4));
    }

    static void promise36_digest_isWithoutTheFinding() {
        BilletBars x = Made.metres(2);
        long before = x.digest();
        x.lose(3);
        due("count(6)", x.count(6), 1);
        due("digest()", x.digest(), before);
    }

    static void promise36_digest_isWithoutSettingsSheetsAndStock() {
        BilletBars x = Made.metres(2);
        long before = x.digest();
        x.law(0, 50);
        x.change(7);
        x.room(5000);
        x.stock(200);
        x.sheet(0, 2, 9);
        x.sample(0, false);
        due("digest()", x.digest(), before);
    }

    static void promise36_digest_wrapsWith200Bars() {
        BilletBars x = Made.fullOfBars();
        int[] parts = new int[7 + 6 * 3 + 200 * 4 + 7 + 1];
        int[] counts = {1, 6, x.count(2), 200, 0, 0, 200};
        System.arraycopy(counts, 0, parts, 0, 7);
        for (int die = 0; die < 6; die++) {
            parts[7 + 3 * die] = die < 4 ? 50 : 0;
            parts[8 + 3 * die] = x.about(die, 3);
            parts[9 + 3 * die] = die == 4 ? 1 : 0;
        }
        for (int bar = 0; bar < 200; bar++) {
            parts[25 + 4 * bar] = 2000;
            parts[28 + 4 * bar] = NONE;
        }
        int[] rest = {0, 0, 0, 400000, 0, 400000, 40000, 300};
        System.arraycopy(rest, 0, parts, 825, 8);
        due("digest()", x.digest(), chained(parts));
    }

    static void promise36_digest_withEveryOrderOfEveryProfile() {
        BilletBars x = new BilletBars();
        int[] parts = new int[14 + 24];
        parts[0] = 8;
        for (int profile = 0; profile < 8; profile++) {
            x.profile(0, 5, 0, 100);
        }
        for (int k = 0; k < 24; k++) {
            x.order(k / 3, 100, 500 - k);
            parts[14 + k] = 500 - k;
        }
        due("digest()", x.digest(), chained(parts));
    }

    static void promise36_digest_changesNothing() {
        dueUnchanged("digest()", Made::busy, x -> x.digest() == Made.busy().digest() ? 1 : 0, 1);
    }
}
