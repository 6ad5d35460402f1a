/** Promises 10 to 14 and 16: laws, pressing, bars, orders, accounts. */
final class PressingTests extends Answers {
    private PressingTests() {
    }

    // ---- promise 10: law

    static void promise10_law_buttIs0To100() {
        dueRange("law(0, v)", v -> new BilletBars().law(0, v), 0, 100, 20);
    }

    static void promise10_law_headIs0To5000() {
        dueRange("law(1, v)", v -> new BilletBars().law(1, v), 0, 5000, 500);
    }

    static void promise10_law_tailIs0To5000() {
        dueRange("law(2, v)", v -> new BilletBars().law(2, v), 0, 5000, 300);
    }

    static void promise10_law_weldIs0To5000() {
        dueRange("law(3, v)", v -> new BilletBars().law(3, v), 0, 5000, 400);
    }

    static void promise10_law_kerfIs0To20() {
        dueRange("law(4, v)", v -> new BilletBars().law(4, v), 0, 20, 5);
    }

    static void promise10_law_stretchIs0To20() {
        dueRange("law(5, v)", v -> new BilletBars().law(5, v), 0, 20, 5);
    }

    static void promise10_law_whatIs0To5() {
        dueRow("law(what, 0)", what -> new BilletBars().law(what, 0), 20, 500, 300, 400, 5, 5, BAD);
        dueBad("law(what, 0)", what -> new BilletBars().law(what, 0), -1, 6);
        due("law(6, -1)", new BilletBars().law(6, -1), BAD);
        due("law(least, most)", new BilletBars().law(LEAST, MOST), BAD);
    }

    static void promise10_law_tellsWhatItWas() {
        int[] most = {100, 5000, 5000, 5000, 20, 20};
        BilletBars x = new BilletBars();
        dueRow("law(what, most)", what -> x.law(what, most[what]), 20, 500, 300, 400, 5, 5);
        dueRow("law(what, 0)", what -> x.law(what, 0), most);
        dueRow("law(what, what + 1)", what -> x.law(what, what + 1), 0, 0, 0, 0, 0, 0);
        dueRow("law(what, 0)", what -> x.law(what, 0), 1, 2, 3, 4, 5, 6);
    }

    static void promise10_law_greatestButtGoesOffTheBillet() {
        BilletBars x = Made.pressing();
        x.law(0, 100);
        x.press(0, 200);
        due("bar(0, 2)", x.bar(0, 2), 1000);
    }

    static void promise10_law_greatestStretchIsTwentyThousandths() {
        BilletBars x = Made.pressing();
        x.law(5, 20);
        x.press(0, 200);
        due("bar(0, 2)", x.bar(0, 2), 2040);
    }

    static void promise10_law_greatestKerfLiesBetweenPieces() {
        BilletBars x = Made.plain();
        x.order(0, 100, 500);
        x.law(4, 20);
        due("pattern(0, 219, 0)", x.pattern(0, 219, 0), 1);
        due("pattern(0, 220, 0)", x.pattern(0, 220, 0), 2);
    }

    static void promise10_law_greatestHeadTailAndWeldAreCutOff() {
        BilletBars x = Made.pressing();
        x.law(2, 5000);
        x.law(3, 5000);
        x.press(0, 1200);
        x.press(0, 1200);
        x.law(1, 5000);
        x.press(0, 1200);
        // of 12000 each: tail 5000; tail and weld 5000; head and tail 5000, of the weld 2000
        dueRow("account(what)", x::account, 5000, 15000, 7000, 0, 9000, 36000, 3600);
    }

    static void promise10_law_badChangesNothing() {
        int[][] refused = {{0, 101}, {0, -1}, {1, 5001}, {2, 5001}, {3, -1}, {4, 21}, {5, 21}, {6, 0}, {-1, 0}};
        for (int[] r : refused) {
            dueUnchanged("law(" + r[0] + ", " + r[1] + ")", Made::busy, x -> x.law(r[0], r[1]), BAD);
        }
    }

    // ---- promise 11: press, and when it is refused

    static void promise11_press_billetIs200To1200() {
        dueRange("press(0, v)", v -> Made.pressing().press(0, v), 200, 1200, 0);
    }

    static void promise11_press_shortestAndLongestBilletMakeBars() {
        BilletBars x = Made.pressing();
        x.press(0, 200);
        x.press(0, 1200);
        due("bar(0, 1)", x.bar(0, 1), 200);
        due("bar(0, 2)", x.bar(0, 2), 2000);
        due("bar(1, 1)", x.bar(1, 1), 1200);
        due("bar(1, 2)", x.bar(1, 2), 12000);
    }

    static void promise11_press_dieMustBeThere() {
        dueBad("press(v, 200)", v -> Made.plain().press(v, 200), -1, 0);
        dueBad("press(v, 200)", v -> Made.pressing().press(v, 200), -1, 1);
        due("press(11, 200)", Made.crowded().press(11, 200) > 0 ? 1 : 0, 1);
        due("press(12, 200)", Made.crowded().press(12, 200), BAD);
    }

    private static int pressAfter(int ticks) {
        BilletBars x = Made.plain();
        x.die(0, 1);
        x.warm(0);
        if (ticks > 0) {
            x.pass(ticks);
        }
        return x.press(0, 200);
    }

    static void promise11_press_notBefore3NorAfter12Ticks() {
        dueRow("press(0, 200), warm ticks", PressingTests::pressAfter,
            NOT, NOT, NOT, 0, 0, 0, 0, 0, 0, 0, 0, 0, 0, NOT, NOT);
        due("press(0, 200) after 100", pressAfter(100), NOT);
    }

    static void promise11_press_notWhenCold() {
        BilletBars x = Made.plain();
        x.die(0, 50);
        x.pass(5);
        due("press(0, 200) at first", x.press(0, 200), NOT);
        Made.rewarm(x, 0);
        x.cool(0);
        due("press(0, 200) cooled", x.press(0, 200), NOT);
    }

    static void promise11_press_notWithAsManyShotsAsTheLimit() {
        BilletBars x = Made.plain();
        x.die(0, 2);
        Made.rewarm(x, 0);
        dueRow("press(0, 200)", n -> x.press(0, 200), 0, 0, NOT, NOT);
        due("count(3)", x.count(3), 2);
    }

    static void promise11_press_fullWith200Bars() {
        BilletBars x = Made.fullOfBars();
        due("count(3)", x.count(3), 200);
        due("bar(199, 3)", x.bar(199, 3), 2000);
        due("about(4, 4)", x.about(4, 4), 1);
        dueRow("press(4, 200)", n -> x.press(4, 200), FULL, FULL);
        due("count(3)", x.count(3), 200);
    }

    static void promise11_press_badGoesAheadOfNot() {
        BilletBars x = Made.plain();
        x.die(0, 1);
        due("press(0, 199), cold", x.press(0, 199), BAD);
        due("press(0, 1201), cold", x.press(0, 1201), BAD);
        due("press(0, 200), cold", x.press(0, 200), NOT);
    }

    static void promise11_press_badGoesAheadOfFull() {
        due("press(4, 199)", Made.fullOfBars().press(4, 199), BAD);
        due("press(4, 1201)", Made.fullOfBars().press(4, 1201), BAD);
        due("press(6, 200)", Made.fullOfBars().press(6, 200), BAD);
    }

    static void promise11_press_notGoesAheadOfFull() {
        due("press(5, 200), cold", Made.fullOfBars().press(5, 200), NOT);
        BilletBars x = Made.fullOfBars();
        Made.rewarm(x, 3);
        due("press(3, 200), at its limit", x.press(3, 200), NOT);
    }

    static void promise11_press_badChangesNothing() {
        dueUnchanged("press(0, 199)", Made::busy, x -> x.press(0, 199), BAD);
        dueUnchanged("press(0, 1201)", Made::busy, x -> x.press(0, 1201), BAD);
        dueUnchanged("press(4, 300)", Made::busy, x -> x.press(4, 300), BAD);
        dueUnchanged("press(-1, 300)", Made::busy, x -> x.press(-1, 300), BAD);
    }

    private static BilletBars busyAndTooLate() {
        BilletBars x = Made.busy();
        x.pass(3);
        return x;
    }

    static void promise11_press_notChangesNothing() {
        dueUnchanged("press(3, 300), cold", Made::busy, x -> x.press(3, 300), NOT);
        dueUnchanged("press(2, 300), at its limit", Made::busy, x -> x.press(2, 300), NOT);
        dueUnchanged("press(0, 300), too late", PressingTests::busyAndTooLate, x -> x.press(0, 300), NOT);
    }

    static void promise11_press_fullChangesNothing() {
        dueUnchanged("press(4, 300)", Made::fullOfBars, x -> x.press(4, 300), FULL);
    }

    // ---- promise 11: what a shot does

    static void promise11_press_takesOneTickAndIsAShot() {
        BilletBars x = Made.pressing();
        x.press(0, 200);
        due("count(2)", x.count(2), 4);
        due("about(0, 2)", x.about(0, 2), 1);
        due("about(0, 3)", x.about(0, 3), 4);
        due("about(0, 5)", x.about(0, 5), 1);
    }

    private static int lengthOf(int billet, int butt, int stretch) {
        BilletBars x = Made.plain();
        x.profile(0, 7, 0, 1000);
        x.die(1, 1);
        x.law(0, butt);
        x.law(5, stretch);
        Made.rewarm(x, 0);
        x.press(0, billet);
        return x.bar(0, 2);
    }

    static void promise11_press_stretchedLengthIsCutToMillimetres() {
        // 1400 * 1.000, 1407 * 1.001 = 1408.407, 1946 * 1.001 = 1947.946, 7 * 143 * 1.001 = 1002.001
        due("billet 200", lengthOf(200, 0, 0), 1400);
        due("billet 201, stretch 1", lengthOf(201, 0, 1), 1408);
        due("billet 278, stretch 1", lengthOf(278, 0, 1), 1947);
        due("billet 243, butt 100, stretch 1", lengthOf(243, 100, 1), 1002);
        // (523 - 19) * 7 = 3528, * 1.013 = 3573.864
        due("billet 523, butt 19, stretch 13", lengthOf(523, 19, 13), 3573);
        due("billet 1200, stretch 20", lengthOf(1200, 0, 20), 8568);
    }

    /** Two bars of 2000, the second with a weld: heads, tails, welds, goods, cut off of both. */
    private static void dueCuts(int head, int tail, int weld, int... accounts) {
        BilletBars x = Made.pressing();
        x.law(1, head);
        x.law(2, tail);
        x.law(3, weld);
        x.press(0, 200);
        x.press(0, 200);
        dueRow("account(what), laws " + head + ", " + tail + ", " + weld, x::account, accounts);
        due("account(5)", x.account(5), 4000);
    }

    static void promise11_press_headIsNoMoreThanTheBar() {
        dueCuts(1999, 5, 9, 3998, 2, 0, 0, 0);
        dueCuts(2000, 5, 9, 4000, 0, 0, 0, 0);
        dueCuts(2001, 5, 9, 4000, 0, 0, 0, 0);
        dueCuts(5000, 5000, 5000, 4000, 0, 0, 0, 0);
    }

    static void promise11_press_tailIsNoMoreThanTheHeadLeaves() {
        dueCuts(500, 1499, 9, 1000, 2998, 1, 0, 1);
        dueCuts(500, 1500, 9, 1000, 3000, 0, 0, 0);
        dueCuts(500, 1501, 9, 1000, 3000, 0, 0, 0);
        dueCuts(0, 5000, 5000, 0, 4000, 0, 0, 0);
    }

    static void promise11_press_weldIsNoMoreThanHeadAndTailLeave() {
        dueCuts(500, 300, 1199, 1000, 600, 1199, 0, 1201);
        dueCuts(500, 300, 1200, 1000, 600, 1200, 0, 1200);
        dueCuts(500, 300, 1201, 1000, 600, 1200, 0, 1200);
        dueCuts(0, 0, 5000, 0, 0, 2000, 0, 2000);
    }

    static void promise11_press_lawsOf0CutNothingOff() {
        dueCuts(0, 0, 0, 0, 0, 0, 0, 4000);
    }

    /** pressing() with a weld of 400 and die 1, which may press, too. */
    private static BilletBars welding() {
        BilletBars x = Made.pressing();
        x.law(3, 400);
        x.die(0, 50);
        x.warm(1);
        x.pass(3);
        return x;
    }

    static void promise11_press_noWeldAtTheFirstBillet() {
        BilletBars x = welding();
        x.press(0, 200);
        due("bar(0, 5)", x.bar(0, 5), 0);
        due("bar(0, 4)", x.bar(0, 4), 2000);
    }

    static void promise11_press_weldBehindTheSameDieInTheTickAhead() {
        BilletBars x = welding();
        x.press(0, 200);
        x.press(0, 200);
        x.press(0, 200);
        due("bar(1, 5)", x.bar(1, 5), 400);
        due("bar(1, 4)", x.bar(1, 4), 1600);
        due("bar(2, 5)", x.bar(2, 5), 400);
    }

    static void promise11_press_noWeldAfterOneTickMore() {
        BilletBars x = welding();
        x.press(0, 200);
        x.pass(1);
        x.press(0, 200);
        due("bar(1, 5)", x.bar(1, 5), 0);
    }

    static void promise11_press_noWeldBehindAnotherDie() {
        BilletBars x = welding();
        x.press(0, 200);
        x.press(1, 200);
        x.press(0, 200);
        x.press(0, 200);
        dueRow("bar(i, 5)", i -> x.bar(i, 5), 0, 0, 0, 400);
    }

    static void promise11_press_refusedBilletsAreNotTheLatest() {
        BilletBars x = welding();
        x.cool(1);
        x.press(0, 200);
        due("press(0, 199)", x.press(0, 199), BAD);
        due("press(1, 200)", x.press(1, 200), NOT);
        due("press(2, 200)", x.press(2, 200), BAD);
        x.press(0, 200);
        due("bar(1, 5)", x.bar(1, 5), 400);
    }

    static void promise11_press_goodsAreCutOfTheUsableLengthAtOnce() {
        BilletBars x = Made.pressing();
        x.order(0, 600, 500);
        x.law(4, 5);
        due("press(0, 200)", x.press(0, 200), 1800);
        due("wanted(0, 0)", x.wanted(0, 0), 497);
        // two kerfs of 5 and 190
        due("bar(0, 4)", x.bar(0, 4), 200);
    }

    static void promise11_press_noGoodsWithoutOrders() {
        BilletBars x = Made.pressing();
        due("press(0, 200)", x.press(0, 200), 0);
        due("bar(0, 4)", x.bar(0, 4), 2000);
    }

    static void promise11_press_piecesThatJustFit() {
        due("two of 1000 in 2000", Made.cutting().press(0, 200), 2000);
        BilletBars x = Made.cutting();
        x.law(4, 1);
        due("two of 1000 and a kerf in 2000", x.press(0, 200), 1000);
        BilletBars y = Made.pressing();
        y.order(0, 2001, 500);
        due("one of 2001 in 2000", y.press(0, 200), 0);
    }

    static void promise11_press_noMoreThanIsWanted() {
        BilletBars x = Made.pressing();
        x.order(0, 1000, 3);
        dueRow("press(0, 200)", n -> x.press(0, 200), 2000, 1000, 0, 0);
        due("wanted(0, 0)", x.wanted(0, 0), 0);
    }

    static void promise11_press_noMoreThan60OfAnOrder() {
        BilletBars x = Made.pressing();
        x.order(0, 100, 500);
        due("press(0, 1200)", x.press(0, 1200), 6000);
        due("wanted(0, 0)", x.wanted(0, 0), 440);
        due("bar(0, 4)", x.bar(0, 4), 6000);
    }

    static void promise11_press_ordersOfOtherProfilesStay() {
        BilletBars x = Made.twoRecipes();
        x.press(1, 200);
        due("wanted(0, 0)", x.wanted(0, 0), 500);
        due("wanted(1, 0)", x.wanted(1, 0), 498);
    }

    // ---- promise 12: bar

    static void promise12_bar_mustBeThere() {
        dueBad("bar(v, 0)", v -> Made.pressing().bar(v, 0), -1, 0);
        dueRow("bar(v, 0)", v -> Made.busy().bar(v, 0), 0, 0, 1, 2, 2, 1, 0, BAD);
        dueBad("bar(v, 0)", v -> Made.busy().bar(v, 0), -1, 7);
    }

    static void promise12_bar_theLastOf200() {
        BilletBars x = Made.fullOfBars();
        due("bar(199, 0)", x.bar(199, 0), 3);
        due("bar(200, 0)", x.bar(200, 0), BAD);
    }

    static void promise12_bar_whatIs0To6() {
        BilletBars x = new BilletBars();
        x.profile(0, 10, 2, 1000);
        x.die(0, 50);
        x.die(0, 50);
        x.order(0, 900, 500);
        Made.rewarm(x, 1);
        x.press(1, 420);
        x.press(1, 520);
        dueRow("bar(0, what)", what -> x.bar(0, what), 1, 420, 4020, 2700, 520, 0, NONE, BAD);
        dueRow("bar(1, what)", what -> x.bar(1, what), 1, 520, 5025, 3600, 225, 400, NONE, BAD);
        dueBad("bar(1, what)", what -> x.bar(1, what), -1, 7);
    }

    static void promise12_bar_batchIsNoneUntilItIsAged() {
        BilletBars x = Made.metres(2, 2);
        x.room(2000);
        dueRow("bar(i, 6)", i -> x.bar(i, 6), NONE, NONE);
        x.age();
        dueRow("bar(i, 6)", i -> x.bar(i, 6), 0, NONE);
        x.age();
        dueRow("bar(i, 6)", i -> x.bar(i, 6), 0, 1);
    }

    static void promise12_bar_withoutGoodsHasNoBatchEver() {
        BilletBars x = Made.metres(0, 2);
        x.age();
        dueRow("bar(i, 6)", i -> x.bar(i, 6), NONE, 0);
    }

    static void promise12_bar_keepsWhatItWas() {
        BilletBars x = Made.metres(3);
        x.law(0, 100);
        x.law(5, 20);
        x.cool(0);
        x.nitride(0);
        dueRow("bar(0, what)", what -> x.bar(0, what), 0, 300, 3000, 3000, 0, 0, NONE);
    }

    static void promise12_bar_changesNothing() {
        dueUnchanged("bar(0, 1)", Made::busy, x -> x.bar(0, 1), 300);
        dueUnchanged("bar(7, 0)", Made::busy, x -> x.bar(7, 0), BAD);
        dueUnchanged("bar(0, 7)", Made::busy, x -> x.bar(0, 7), BAD);
    }

    // ---- promise 13: order

    static void promise13_order_profileMustBeThere() {
        dueBad("order(v, 100, 1)", v -> new BilletBars().order(v, 100, 1), -1, 0);
        dueRow("order(v, 100, 1)", v -> Made.twoRecipes().order(v, 100, 1), 1, 1, BAD);
        dueBad("order(v, 100, 1)", v -> Made.twoRecipes().order(v, 100, 1), -1, 2);
    }

    static void promise13_order_lengthIs100To9000() {
        dueRange("order(0, v, 1)", v -> Made.plain().order(0, v, 1), 100, 9000, 0);
    }

    static void promise13_order_wantedIs0To500() {
        dueRange("order(0, 100, v)", v -> Made.plain().order(0, 100, v), 0, 500, 0);
    }

    static void promise13_order_leastAndGreatestLengthAreKept() {
        BilletBars x = Made.plain();
        x.order(0, 100, 1);
        due("pattern(0, 99, 3)", x.pattern(0, 99, 3), 0);
        due("pattern(0, 100, 3)", x.pattern(0, 100, 3), 100);
        BilletBars y = Made.plain();
        y.order(0, 9000, 1);
        due("pattern(0, 8999, 3)", y.pattern(0, 8999, 3), 0);
        due("pattern(0, 9000, 3)", y.pattern(0, 9000, 3), 9000);
    }

    static void promise13_order_numbersAre0To2AndThenItIsFull() {
        BilletBars x = Made.plain();
        dueRow("order(0, 100, 1)", n -> x.order(0, 100, 1), 0, 1, 2, FULL, FULL);
        due("wanted(0, 2)", x.wanted(0, 2), 1);
        due("wanted(0, 3)", x.wanted(0, 3), BAD);
    }

    static void promise13_order_eachProfileHasPlacesOfItsOwn() {
        BilletBars x = new BilletBars();
        for (int profile = 0; profile < 8; profile++) {
            x.profile(0, 5, 0, 100);
        }
        for (int profile = 7; profile >= 0; profile--) {
            int p = profile;
            dueRow("order(" + p + ", 100, n)", n -> x.order(p, 100, 10 * p + n), 0, 1, 2, FULL);
        }
        for (int profile = 0; profile < 8; profile++) {
            int p = profile;
            dueRow("wanted(" + p + ", n)", n -> x.wanted(p, n), 10 * p, 10 * p + 1, 10 * p + 2, BAD);
        }
    }

    static void promise13_order_placesStayTakenWhenNothingIsWanted() {
        BilletBars x = Made.pressing();
        x.order(0, 1000, 2);
        x.order(0, 1000, 0);
        x.order(0, 1000, 0);
        x.press(0, 200);
        due("wanted(0, 0)", x.wanted(0, 0), 0);
        due("order(0, 1000, 1)", x.order(0, 1000, 1), FULL);
    }

    static void promise13_order_badGoesAheadOfFull() {
        due("order(8, 100, 1)", Made.crowded().order(8, 100, 1), BAD);
        due("order(0, 99, 1)", Made.crowded().order(0, 99, 1), BAD);
        due("order(0, 9001, 1)", Made.crowded().order(0, 9001, 1), BAD);
        due("order(0, 100, -1)", Made.crowded().order(0, 100, -1), BAD);
        due("order(0, 100, 501)", Made.crowded().order(0, 100, 501), BAD);
    }

    static void promise13_order_badChangesNothing() {
        dueUnchanged("order(3, 100, 1)", Made::busy, x -> x.order(3, 100, 1), BAD);
        dueUnchanged("order(0, 99, 1)", Made::busy, x -> x.order(0, 99, 1), BAD);
        dueUnchanged("order(0, 100, 501)", Made::busy, x -> x.order(0, 100, 501), BAD);
    }

    static void promise13_order_fullChangesNothing() {
        dueUnchanged("order(1, 100, 1)", Made::busy, x -> x.order(1, 100, 1), FULL);
        dueUnchanged("order(7, 100, 1)", Made::crowded, x -> x.order(7, 100, 1), FULL);
    }

    // ---- promise 14: wanted

    static void promise14_wanted_profileMustBeThere() {
        dueBad("wanted(v, 0)", v -> new BilletBars().wanted(v, 0), -1, 0);
        dueRow("wanted(v, 0)", v -> Made.twoRecipes().wanted(v, 0), 500, 500, BAD);
        dueBad("wanted(v, 0)", v -> Made.twoRecipes().wanted(v, 0), -1, 2);
        due("wanted(8, 0)", Made.crowded().wanted(8, 0), BAD);
    }

    static void promise14_wanted_orderMustBeThere() {
        dueBad("wanted(0, v)", v -> Made.plain().wanted(0, v), -1, 0);
        dueBad("wanted(0, v)", v -> Made.cutting().wanted(0, v), -1, 1);
        dueRow("wanted(7, v)", v -> Made.crowded().wanted(7, v), 50, 60, 70, BAD);
        dueBad("wanted(7, v)", v -> Made.crowded().wanted(7, v), -1, 3);
    }

    static void promise14_wanted_leastAndGreatest() {
        BilletBars x = Made.plain();
        x.order(0, 100, 0);
        x.order(0, 100, 500);
        dueRow("wanted(0, v)", v -> x.wanted(0, v), 0, 500);
    }

    static void promise14_wanted_isLessByWhatWasCutAndNeverBelow0() {
        BilletBars x = Made.pressing();
        x.order(0, 700, 1);
        x.order(0, 100, 15);
        due("press(0, 200)", x.press(0, 200), 2000);
        dueRow("wanted(0, v)", v -> x.wanted(0, v), 0, 2);
        due("press(0, 200)", x.press(0, 200), 200);
        dueRow("wanted(0, v)", v -> x.wanted(0, v), 0, 0);
        due("press(0, 200)", x.press(0, 200), 0);
        dueRow("wanted(0, v)", v -> x.wanted(0, v), 0, 0);
    }

    static void promise14_wanted_changesNothing() {
        dueUnchanged("wanted(0, 2)", Made::busy, x -> x.wanted(0, 2), BAD);
        dueUnchanged("wanted(3, 0)", Made::busy, x -> x.wanted(3, 0), BAD);
    }

    // ---- promise 16: account

    static void promise16_account_whatIs0To6() {
        dueRow("account(what)", what -> new BilletBars().account(what), 0, 0, 0, 0, 0, 0, 0, BAD);
        dueBad("account(what)", what -> new BilletBars().account(what), -1, 7);
        dueBad("account(what)", what -> Made.busy().account(what), -1, 7);
    }

    static void promise16_account_isOfAllBarsByCause() {
        BilletBars x = new BilletBars();
        x.profile(0, 10, 0, 1000);
        x.profile(0, 20, 0, 1000);
        x.die(0, 50);
        x.die(1, 50);
        x.order(0, 900, 500);
        x.warm(0);
        x.warm(1);
        x.pass(3);
        x.press(0, 420);
        x.press(0, 520);
        x.press(1, 220);
        // 4020: 500, 300, -, 2700, 520; 5025: 500, 300, 400, 3600, 225; 4020: 500, 300, -, 0, 3220
        dueRow("account(what)", x::account, 1500, 900, 400, 6300, 3965, 13065, 1160);
    }

    static void promise16_account_togetherAllBars() {
        BilletBars x = Made.busy();
        int sum = 0;
        for (int what = 0; what <= 4; what++) {
            sum += x.account(what);
        }
        due("account(5)", x.account(5), sum);
    }

    static void promise16_account_of200Bars() {
        dueRow("account(what)", what -> Made.fullOfBars().account(what), 0, 0, 0, 400000, 0, 400000, 40000);
    }

    static void promise16_account_ofTheLongestBars() {
        BilletBars x = Made.plain();
        x.profile(0, 80, 0, 1000);
        x.law(5, 20);
        for (int die = 0; die < 4; die++) {
            x.die(1, 50);
            Made.press(x, die, 1200, 50);
        }
        // 1200 * 80 * 1.020 = 97920
        due("bar(199, 2)", x.bar(199, 2), 97920);
        dueRow("account(what)", x::account, 0, 0, 0, 0, 19584000, 19584000, 240000);
    }

    static void promise16_account_changesNothing() {
        dueUnchanged("account(6)", Made::busy, x -> x.account(6), 3050);
        dueUnchanged("account(7)", Made::busy, x -> x.account(7), BAD);
    }
}
