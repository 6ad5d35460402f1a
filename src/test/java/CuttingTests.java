/** Promises 15, 17 and 18: patterns, stock, the best billet. */
final class CuttingTests extends Answers {
    private CuttingTests() {
    }

    /** plain() with a kerf and orders of profile 0, each a length and how many are wanted. */
    private static BilletBars ordered(int kerf, int[]... orders) {
        BilletBars x = Made.plain();
        x.law(4, kerf);
        for (int[] order : orders) {
            x.order(0, order[0], order[1]);
        }
        return x;
    }

    private static int[] of(int length, int wanted) {
        return new int[] {length, wanted};
    }

    /** n 0, n 1, n 2 and goods of the pattern. */
    private static void duePattern(BilletBars x, int usable, int n0, int n1, int n2, int goods) {
        dueRow("pattern(0, " + usable + ", what)", what -> x.pattern(0, usable, what), n0, n1, n2, goods);
    }

    // ---- promise 15: pattern

    static void promise15_pattern_profileMustBeThere() {
        dueBad("pattern(v, 1000, 3)", v -> new BilletBars().pattern(v, 1000, 3), -1, 0);
        dueRow("pattern(v, 1000, 3)", v -> Made.twoRecipes().pattern(v, 1000, 3), 1000, 1000, BAD);
        dueBad("pattern(v, 1000, 3)", v -> Made.twoRecipes().pattern(v, 1000, 3), -1, 2);
        due("pattern(8, 1000, 3)", Made.crowded().pattern(8, 1000, 3), BAD);
    }

    static void promise15_pattern_usableIs0To200000() {
        dueRange("pattern(0, v, 0)", v -> Made.plain().pattern(0, v, 0), 0, 200000, 0);
        dueBad("pattern(0, v, 3)", v -> Made.cutting().pattern(0, v, 3), -1, 200001);
    }

    static void promise15_pattern_whatIs0To3() {
        BilletBars x = ordered(0, of(700, 9), of(200, 9), of(100, 1));
        dueRow("pattern(0, 1000, what)", what -> x.pattern(0, 1000, what), 1, 1, 1, 1000, BAD);
        dueBad("pattern(0, 1000, what)", what -> x.pattern(0, 1000, what), -1, 4);
    }

    static void promise15_pattern_withoutOrdersIs0() {
        duePattern(ordered(0), 0, 0, 0, 0, 0);
        duePattern(ordered(20), 200000, 0, 0, 0, 0);
    }

    static void promise15_pattern_ofOrdersThatAreNotThereIs0() {
        duePattern(ordered(0, of(1000, 9)), 3000, 3, 0, 0, 3000);
        duePattern(ordered(0, of(1000, 1), of(1000, 1)), 3000, 1, 1, 0, 2000);
    }

    static void promise15_pattern_ofUsable0Is0() {
        duePattern(ordered(0, of(100, 60), of(200, 60), of(300, 60)), 0, 0, 0, 0, 0);
        duePattern(ordered(20, of(100, 60), of(200, 60), of(300, 60)), 0, 0, 0, 0, 0);
    }

    static void promise15_pattern_ofTheGreatestUsableLength() {
        duePattern(ordered(0, of(3333, 500)), 200000, 60, 0, 0, 199980);
        duePattern(ordered(0, of(3334, 500)), 200000, 59, 0, 0, 196706);
        duePattern(ordered(20, of(9000, 500)), 200000, 22, 0, 0, 198000);
    }

    static void promise15_pattern_atMost60OfEach() {
        BilletBars x = ordered(0, of(100, 500));
        duePattern(x, 5999, 59, 0, 0, 5900);
        duePattern(x, 6000, 60, 0, 0, 6000);
        duePattern(x, 6100, 60, 0, 0, 6000);
        duePattern(x, 200000, 60, 0, 0, 6000);
        BilletBars y = ordered(0, of(400, 500), of(200, 500), of(100, 500));
        duePattern(y, 200000, 60, 60, 60, 42000);
    }

    static void promise15_pattern_atMostWhatIsWanted() {
        duePattern(ordered(0, of(100, 59)), 200000, 59, 0, 0, 5900);
        duePattern(ordered(0, of(100, 60)), 200000, 60, 0, 0, 6000);
        duePattern(ordered(0, of(100, 61)), 200000, 60, 0, 0, 6000);
        duePattern(ordered(0, of(100, 1), of(200, 2), of(300, 3)), 200000, 1, 2, 3, 1400);
    }

    static void promise15_pattern_noneOfWhatIsNotWanted() {
        duePattern(ordered(0, of(100, 0)), 200000, 0, 0, 0, 0);
        duePattern(ordered(0, of(9000, 0), of(300, 60), of(200, 60)), 8999, 0, 29, 1, 8900);
        duePattern(ordered(0, of(300, 60), of(9000, 0), of(200, 60)), 8999, 29, 0, 1, 8900);
        duePattern(ordered(0, of(300, 60), of(200, 60), of(9000, 0)), 8999, 29, 1, 0, 8900);
    }

    static void promise15_pattern_wantedIsAsItIsYet() {
        BilletBars x = Made.pressing();
        x.order(0, 1000, 3);
        duePattern(x, 200000, 3, 0, 0, 3000);
        x.press(0, 200);
        duePattern(x, 200000, 1, 0, 0, 1000);
        x.press(0, 200);
        duePattern(x, 200000, 0, 0, 0, 0);
    }

    static void promise15_pattern_onePieceThatJustFits() {
        for (int kerf : new int[] {0, 1, 20}) {
            BilletBars x = ordered(kerf, of(150, 60));
            duePattern(x, 149, 0, 0, 0, 0);
            duePattern(x, 150, 1, 0, 0, 150);
        }
    }

    static void promise15_pattern_kerfsLieBetweenPieces() {
        BilletBars x = ordered(5, of(100, 60));
        duePattern(x, 204, 1, 0, 0, 100);
        duePattern(x, 205, 2, 0, 0, 200);
        duePattern(x, 309, 2, 0, 0, 200);
        duePattern(x, 310, 3, 0, 0, 300);
        // 60 pieces and 59 kerfs
        duePattern(x, 6294, 59, 0, 0, 5900);
        duePattern(x, 6295, 60, 0, 0, 6000);
    }

    static void promise15_pattern_kerfsLieBetweenPiecesOfUnlikeOrders() {
        BilletBars x = ordered(20, of(1000, 3), of(700, 2), of(150, 60));
        duePattern(x, 2189, 2, 0, 0, 2000);
        duePattern(x, 2190, 2, 0, 1, 2150);
        duePattern(x, 1719, 1, 0, 4, 1600);
        duePattern(x, 1720, 1, 1, 0, 1700);
        duePattern(x, 1889, 1, 0, 5, 1750);
        duePattern(x, 1890, 1, 1, 1, 1850);
    }

    static void promise15_pattern_hasTheGreatestGoods() {
        duePattern(ordered(0, of(600, 60), of(500, 60)), 1000, 0, 2, 0, 1000);
        duePattern(ordered(0, of(700, 60), of(300, 60), of(200, 60)), 800, 0, 2, 1, 800);
        duePattern(ordered(0, of(999, 1), of(500, 60), of(400, 60)), 1000, 0, 2, 0, 1000);
        duePattern(ordered(0, of(999, 1), of(998, 1), of(500, 60)), 1000, 0, 0, 2, 1000);
        duePattern(ordered(0, of(999, 1), of(998, 1), of(500, 60)), 999, 1, 0, 0, 999);
    }

    static void promise15_pattern_hasTheGreatestGoodsWhereFewerOfTheFirstOrdersGiveMore() {
        duePattern(ordered(0, of(900, 1), of(500, 2)), 1000, 0, 2, 0, 1000);
        duePattern(ordered(0, of(100, 2), of(900, 1)), 900, 0, 1, 0, 900);
        duePattern(ordered(0, of(900, 1), of(150, 1), of(500, 2)), 1000, 0, 0, 2, 1000);
        duePattern(ordered(0, of(600, 2), of(350, 2)), 1350, 1, 2, 0, 1300);
        duePattern(ordered(0, of(600, 3), of(350, 2)), 1950, 2, 2, 0, 1900);
        duePattern(ordered(0, of(600, 2), of(300, 2), of(310, 1)), 1820, 2, 1, 1, 1810);
    }

    static void promise15_pattern_ofLikeGoodsHasTheFewestPieces() {
        duePattern(ordered(0, of(100, 60), of(300, 1)), 300, 0, 1, 0, 300);
        duePattern(ordered(0, of(100, 3), of(100, 3), of(300, 1)), 300, 0, 0, 1, 300);
        duePattern(ordered(0, of(100, 60), of(300, 60)), 300, 0, 1, 0, 300);
        duePattern(ordered(0, of(100, 60), of(200, 60), of(300, 60)), 600, 0, 0, 2, 600);
        duePattern(ordered(0, of(200, 60), of(300, 60), of(600, 1)), 600, 0, 0, 1, 600);
        duePattern(ordered(0, of(100, 60), of(300, 4), of(200, 60)), 500, 0, 1, 1, 500);
    }

    static void promise15_pattern_ofLikePiecesHasTheGreatestN0() {
        duePattern(ordered(0, of(500, 2), of(500, 3), of(500, 9)), 1000, 2, 0, 0, 1000);
        // 1, 1, 0 and 0, 0, 2
        duePattern(ordered(0, of(100, 60), of(300, 60), of(200, 60)), 400, 1, 1, 0, 400);
        // 1, 0, 1 and 0, 2, 0
        duePattern(ordered(0, of(300, 60), of(200, 60), of(100, 60)), 400, 1, 0, 1, 400);
    }

    static void promise15_pattern_ofLikeN0HasTheGreatestN1() {
        duePattern(ordered(0, of(500, 2), of(500, 3), of(500, 9)), 2000, 2, 2, 0, 2000);
        duePattern(ordered(0, of(500, 0), of(300, 9), of(300, 9)), 900, 0, 3, 0, 900);
        duePattern(ordered(0, of(500, 1), of(300, 1), of(300, 9)), 1100, 1, 1, 1, 1100);
    }

    static void promise15_pattern_theKerfIsThatOfNow() {
        BilletBars x = ordered(5, of(100, 60));
        duePattern(x, 200, 1, 0, 0, 100);
        x.law(4, 0);
        duePattern(x, 200, 2, 0, 0, 200);
    }

    static void promise15_pattern_changesNothing() {
        dueUnchanged("pattern(0, 900, 3)", Made::busy, x -> x.pattern(0, 900, 3), 900);
        dueUnchanged("pattern(0, 200001, 3)", Made::busy, x -> x.pattern(0, 200001, 3), BAD);
        dueUnchanged("pattern(0, -1, 3)", Made::busy, x -> x.pattern(0, -1, 3), BAD);
        dueUnchanged("pattern(0, 0, 4)", Made::busy, x -> x.pattern(0, 0, 4), BAD);
        dueUnchanged("pattern(3, 0, 0)", Made::busy, x -> x.pattern(3, 0, 0), BAD);
    }

    // ---- promise 17: stock

    static void promise17_stock_billetIs200To1200() {
        dueRange("stock(v)", v -> new BilletBars().stock(v), 200, 1200, 1);
    }

    static void promise17_stock_tellsHowManyAndThenItIsFull() {
        BilletBars x = new BilletBars();
        dueRow("stock(n)", n -> x.stock(200 + n), 1, 2, 3, 4, 5, 6, FULL, FULL);
    }

    static void promise17_stock_theSameLengthIsALengthMore() {
        BilletBars x = new BilletBars();
        dueRow("stock(300)", n -> x.stock(300), 1, 2, 3, 4, 5, 6, FULL);
    }

    static void promise17_stock_badGoesAheadOfFull() {
        due("stock(199)", Made.crowded().stock(199), BAD);
        due("stock(1201)", Made.crowded().stock(1201), BAD);
        due("stock(1200)", Made.crowded().stock(1200), FULL);
    }

    static void promise17_stock_badChangesNothing() {
        dueUnchanged("stock(199)", Made::busy, x -> x.stock(199), BAD);
        dueUnchanged("stock(1201)", Made::busy, x -> x.stock(1201), BAD);
    }

    static void promise17_stock_fullChangesNothing() {
        dueUnchanged("stock(200)", Made::crowded, x -> x.stock(200), FULL);
        dueUnchanged("stock(1200)", Made::crowded, x -> x.stock(1200), FULL);
    }

    static void promise17_stock_fullLeavesEachOfTheSix() {
        for (int place = 0; place < 6; place++) {
            int[] lengths = {290, 290, 290, 290, 290, 290};
            lengths[place] = 210;
            BilletBars x = stocked(of(2000, 1), lengths);
            due("stock(200)", x.stock(200), FULL);
            due("best(0, false), 210 at " + place, x.best(0, false), 210);
            due("stock(1200)", x.stock(1200), FULL);
            due("best(0, false), 210 at " + place, x.best(0, false), 210);
        }
    }

    // ---- promise 18: best

    /** Ratio 10 and laws of 0, die 0 that is cold, an order, stock. */
    private static BilletBars stocked(int[] order, int... lengths) {
        BilletBars x = ordered(0, order);
        x.die(0, 1);
        for (int length : lengths) {
            x.stock(length);
        }
        return x;
    }

    static void promise18_best_dieMustBeThere() {
        dueBad("best(v, true)", v -> Made.plain().best(v, true), -1, 0);
        dueRow("best(v, false)", v -> stocked(of(2000, 9), 200).best(v, false), 200, BAD);
        dueBad("best(v, false)", v -> stocked(of(2000, 9), 200).best(v, false), -1, 1);
        due("best(12, false)", Made.crowded().best(12, false), BAD);
    }

    static void promise18_best_noneWithoutStock() {
        due("best(0, false)", stocked(of(2000, 9)).best(0, false), NONE);
    }

    static void promise18_best_noneWhereNoneGivesGoods() {
        BilletBars x = ordered(0);
        x.die(0, 1);
        x.stock(1200);
        due("without orders", x.best(0, false), NONE);
        due("nothing wanted", stocked(of(2000, 0), 200, 1200).best(0, false), NONE);
        due("one millimetre short", stocked(of(2001, 9), 200).best(0, false), NONE);
        due("just long enough", stocked(of(2000, 9), 200).best(0, false), 200);
    }

    static void promise18_best_shortestAndLongestBillet() {
        due("200", stocked(of(1000, 60), 200).best(0, false), 200);
        due("1200", stocked(of(1000, 60), 1200).best(0, false), 1200);
    }

    static void promise18_best_passesOverBilletsWithoutGoods() {
        due("200 gives none", stocked(of(2500, 9), 200, 260).best(0, false), 260);
        due("200 gives none", stocked(of(2500, 9), 260, 200).best(0, false), 260);
    }

    static void promise18_best_hasTheGreatestGoodsByBillet() {
        // 2500 by 260, 5000 by 500, 7500 by 800
        due("best(0, false)", stocked(of(2500, 9), 260, 500, 800).best(0, false), 500);
        due("best(0, false)", stocked(of(2500, 9), 800, 500, 260).best(0, false), 500);
        due("best(0, false)", stocked(of(2500, 9), 500, 260, 800).best(0, false), 500);
    }

    static void promise18_best_isComparedExactly() {
        // 5995 by 600 is 9.991666.., 5985 by 599 is 9.991652..: whole quotients would be alike
        BilletBars x = stocked(of(5995, 1), 600, 599);
        x.order(0, 5985, 1);
        due("best(0, false), 600 first", x.best(0, false), 600);
        BilletBars y = stocked(of(5995, 1), 599, 600);
        y.order(0, 5985, 1);
        due("best(0, false), 599 first", y.best(0, false), 600);
    }

    static void promise18_best_ofLikeOnesTheShortest() {
        due("longest first", stocked(of(1000, 60), 1200, 600, 200).best(0, false), 200);
        due("shortest first", stocked(of(1000, 60), 200, 600, 1200).best(0, false), 200);
        due("shortest between", stocked(of(1000, 60), 600, 200, 1200).best(0, false), 200);
        due("the same twice", stocked(of(1000, 60), 300, 300).best(0, false), 300);
    }

    static void promise18_best_theLastOfSix() {
        due("best(0, false)", stocked(of(2000, 9), 290, 280, 270, 260, 250, 210).best(0, false), 210);
        due("best(0, false)", stocked(of(2000, 9), 210, 290, 280, 270, 260, 250).best(0, false), 210);
    }

    static void promise18_best_withWeldIfTold() {
        // 2400, with a weld of 400 just 2000
        BilletBars x = stocked(of(2000, 9), 240);
        x.law(3, 400);
        due("best(0, true)", x.best(0, true), 240);
        due("best(0, false)", x.best(0, false), 240);
        x.law(3, 401);
        due("best(0, true)", x.best(0, true), NONE);
        due("best(0, false)", x.best(0, false), 240);
    }

    static void promise18_best_headAndTailAreCutOff() {
        BilletBars x = stocked(of(2000, 9), 240);
        x.law(1, 300);
        x.law(2, 100);
        due("best(0, false)", x.best(0, false), 240);
        x.law(2, 101);
        due("best(0, false)", x.best(0, false), NONE);
        x.law(1, 5000);
        due("best(0, false)", x.best(0, false), NONE);
    }

    static void promise18_best_weldIsAsToldWhateverWasPressed() {
        BilletBars x = Made.pressing();
        x.order(0, 2000, 500);
        x.stock(200);
        x.law(3, 400);
        x.press(0, 200);
        due("best(0, false)", x.best(0, false), 200);
        x.pass(5);
        due("best(0, true)", x.best(0, true), NONE);
    }

    static void promise18_best_ofADieThatMayNotPress() {
        BilletBars x = stocked(of(2000, 9), 200);
        due("best(0, false), cold", x.best(0, false), 200);
        Made.rewarm(x, 0);
        x.press(0, 200);
        due("best(0, false), at its limit", x.best(0, false), 200);
    }

    static void promise18_best_changesNothing() {
        dueUnchanged("best(0, true)", Made::busy, x -> x.best(0, true), 800);
        dueUnchanged("best(3, false)", Made::busy, x -> x.best(3, false), NONE);
        dueUnchanged("best(4, false)", Made::busy, x -> x.best(4, false), BAD);
    }
}
