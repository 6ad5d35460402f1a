/** Promises 23 to 28: ageing, samples. */
final class AgeingTests extends Answers {
    private AgeingTests() {
    }

    private static BilletBars inRoom(int room, int... metres) {
        BilletBars x = Made.metres(metres);
        x.room(room);
        return x;
    }

    /** How many bars each batch has, until none waits. */
    private static void dueBatches(BilletBars x, int... want) {
        due("batches()", x.batches(), want.length);
        dueRow("age()", n -> x.age(), want);
        due("age(), none waits", x.age(), NOT);
    }

    private static void dueBatchOfEach(BilletBars x, int... want) {
        dueRow("bar(i, 6)", i -> x.bar(i, 6), want);
    }

    // ---- promise 23: room

    static void promise23_room_is1000To1000000() {
        dueRange("room(v)", v -> new BilletBars().room(v), 1000, 1000000, 100000);
    }

    static void promise23_room_tellsWhatItWas() {
        BilletBars x = new BilletBars();
        due("room(1000)", x.room(1000), 100000);
        due("room(1000000)", x.room(1000000), 1000);
        due("room(1001)", x.room(1001), 1000000);
        due("room(1001)", x.room(1001), 1001);
    }

    static void promise23_room_leastTakesOneMetre() {
        dueBatches(inRoom(1000, 1, 1), 1, 1);
        dueBatches(inRoom(1999, 1, 1), 1, 1);
        dueBatches(inRoom(2000, 1, 1), 2);
    }

    /** Eleven bars of 97920, the longest that there are. */
    private static BilletBars longestBars() {
        BilletBars x = Made.plain();
        x.profile(0, 80, 0, 1000);
        x.law(5, 20);
        x.order(1, 8160, 500);
        x.die(1, 50);
        Made.press(x, 0, 1200, 11);
        return x;
    }

    static void promise23_room_atFirstAndGreatest() {
        due("bar(10, 3)", longestBars().bar(10, 3), 97920);
        dueBatches(longestBars(), 1, 1, 1, 1, 1, 1, 1, 1, 1, 1, 1);
        BilletBars x = longestBars();
        x.room(1000000);
        dueBatches(x, 10, 1);
    }

    static void promise23_room_badChangesNothing() {
        dueUnchanged("room(999)", Made::busy, x -> x.room(999), BAD);
        dueUnchanged("room(1000001)", Made::busy, x -> x.room(1000001), BAD);
        dueUnchanged("room(-1)", Made::busy, x -> x.room(-1), BAD);
    }

    // ---- promise 24: age

    static void promise24_age_notWithoutBars() {
        due("age()", new BilletBars().age(), NOT);
        due("age()", Made.cutting().age(), NOT);
    }

    static void promise24_age_notWithBarsWithoutGoodsAlone() {
        BilletBars x = Made.metres(0, 0);
        due("count(3)", x.count(3), 2);
        due("age()", x.age(), NOT);
        due("count(5)", x.count(5), 0);
        dueBatchOfEach(x, NONE, NONE);
    }

    static void promise24_age_notWhenAllAreAged() {
        BilletBars x = Made.metres(2);
        dueRow("age()", n -> x.age(), 1, NOT, NOT);
        due("count(5)", x.count(5), 1);
    }

    static void promise24_age_takesWhatJustFits() {
        dueBatches(inRoom(4000, 2, 2, 2), 2, 1);
        dueBatches(inRoom(3999, 2, 2, 2), 1, 1, 1);
        dueBatches(inRoom(4001, 2, 2, 2), 2, 1);
        dueBatches(inRoom(6000, 2, 2, 2), 3);
        dueBatches(inRoom(5999, 2, 2, 2), 2, 1);
    }

    static void promise24_age_allBehindOneThatDoesNotFitWait() {
        BilletBars x = inRoom(4000, 2, 3, 1);
        dueBatches(x, 1, 2);
        dueBatchOfEach(x, 0, 1, 1);
    }

    static void promise24_age_oneAsLongAsRoomFits() {
        BilletBars x = inRoom(4000, 4, 1, 3);
        dueBatches(x, 1, 2);
        dueBatchOfEach(x, 0, 1, 1);
    }

    static void promise24_age_oneLongerThanRoomGoesAlone() {
        BilletBars x = inRoom(3000, 4, 1, 1);
        dueBatches(x, 1, 2);
        dueBatchOfEach(x, 0, 1, 1);
        dueBatches(inRoom(3999, 4, 1), 1, 1);
    }

    static void promise24_age_oneLongerThanRoomBehindOthersWaits() {
        BilletBars x = inRoom(3000, 1, 4, 1);
        dueBatches(x, 1, 1, 1);
        dueBatchOfEach(x, 0, 1, 2);
    }

    static void promise24_age_severalLongerThanRoomGoAloneEach() {
        dueBatches(inRoom(1000, 4, 3, 2), 1, 1, 1);
    }

    static void promise24_age_barsWithoutGoodsAreNotInTheWay() {
        BilletBars x = inRoom(4000, 0, 2, 0, 2, 0);
        dueBatches(x, 2);
        dueBatchOfEach(x, NONE, 0, NONE, 0, NONE);
    }

    static void promise24_age_ofOneRecipeThatWithTheLeastBarFirst() {
        BilletBars x = Made.sixBars();
        due("age()", x.age(), 4);
        dueBatchOfEach(x, 0, NONE, 0, 0, NONE, 0);
        due("age()", x.age(), 2);
        dueBatchOfEach(x, 0, 1, 0, 0, 1, 0);
        due("age()", x.age(), NOT);
    }

    static void promise24_age_recipesTakeTurnsByTheirFirstBar() {
        BilletBars x = Made.sixBars();
        x.room(6000);
        due("age()", x.age(), 2);
        dueBatchOfEach(x, 0, NONE, 0, NONE, NONE, NONE);
        x.room(4999);
        due("age()", x.age(), 1);
        dueBatchOfEach(x, 0, 1, 0, NONE, NONE, NONE);
        due("age()", x.age(), 1);
        dueBatchOfEach(x, 0, 1, 0, 2, NONE, NONE);
        due("age()", x.age(), 1);
        dueBatchOfEach(x, 0, 1, 0, 2, 3, NONE);
        due("age()", x.age(), 1);
        dueBatchOfEach(x, 0, 1, 0, 2, 3, 4);
        due("count(5)", x.count(5), 5);
    }

    static void promise24_age_theRecipeIsNotThatOfTheLeastNumber() {
        BilletBars x = Made.twoRecipes();
        x.press(1, 200);
        x.press(0, 200);
        x.age();
        dueBatchOfEach(x, 0, NONE);
    }

    static void promise24_age_barsOfOtherRecipesAreNotInTheWay() {
        BilletBars x = Made.twoRecipes();
        x.room(4000);
        x.press(0, 200);
        x.press(1, 500);
        x.press(0, 200);
        due("age()", x.age(), 2);
        dueBatchOfEach(x, 0, NONE, 0);
    }

    static void promise24_age_goesOnWithBarsThatArePressedLater() {
        BilletBars x = Made.metres(2);
        due("age()", x.age(), 1);
        x.press(0, 200);
        due("age()", x.age(), 1);
        dueBatchOfEach(x, 0, 1);
    }

    static void promise24_age_200BarsInOneBatch() {
        BilletBars x = Made.fullOfBars();
        x.room(400000);
        due("age()", x.age(), 200);
        due("bar(199, 6)", x.bar(199, 6), 0);
        due("age(), none waits", x.age(), NOT);
        BilletBars y = Made.fullOfBars();
        y.room(399999);
        due("age()", y.age(), 199);
        due("bar(199, 6)", y.bar(199, 6), NONE);
    }

    static void promise24_age_200BarsIn200Batches() {
        BilletBars x = Made.fullOfBars();
        x.room(1000);
        for (int n = 0; n < 200; n++) {
            due("age()", x.age(), 1);
        }
        due("age(), none waits", x.age(), NOT);
        due("bar(199, 6)", x.bar(199, 6), 199);
        due("count(5)", x.count(5), 200);
    }

    static void promise24_age_notChangesNothing() {
        dueUnchanged("age()", () -> Made.metres(0, 0), BilletBars::age, NOT);
        dueUnchanged("age()", AgeingTests::aged, BilletBars::age, NOT);
    }

    private static BilletBars aged() {
        BilletBars x = Made.metres(2, 0, 3);
        x.age();
        return x;
    }

    // ---- promise 25: batches

    static void promise25_batches_0WhenNoneWaits() {
        due("batches()", new BilletBars().batches(), 0);
        due("batches(), no goods", Made.metres(0, 0).batches(), 0);
        due("batches(), all aged", aged().batches(), 0);
    }

    static void promise25_batches_byRoom() {
        dueRow("batches() with room", k -> {
            BilletBars x = Made.sixBars();
            x.room(new int[] {1000, 4999, 5000, 5999, 6000, 10999, 11000}[k]);
            return x.batches();
        }, 6, 6, 4, 4, 3, 3, 2);
    }

    static void promise25_batches_longerThanRoomCountAlone() {
        due("batches()", inRoom(3000, 1, 4, 1).batches(), 3);
        due("batches()", inRoom(3000, 4, 1, 1).batches(), 2);
        due("batches()", inRoom(1000, 2, 2, 2).batches(), 3);
    }

    static void promise25_batches_onlyOfThoseThatWaitYet() {
        BilletBars x = Made.sixBars();
        x.room(6000);
        dueRow("batches() after age()", n -> {
            int number = x.batches();
            x.age();
            return number;
        }, 3, 2, 1, 0);
    }

    static void promise25_batches_of200Bars() {
        BilletBars x = Made.fullOfBars();
        due("batches()", x.batches(), 4);
        x.room(1000);
        due("batches()", x.batches(), 200);
    }

    static void promise25_batches_nothingIsDone() {
        dueUnchanged("batches()", Made::sixBars, BilletBars::batches, 2);
        dueUnchanged("batches()", Made::busy, BilletBars::batches, Made.busy().batches());
    }

    // ---- promise 26: sample

    static void promise26_sample_barMustBeThere() {
        dueBad("sample(v, true)", v -> Made.cutting().sample(v, true), -1, 0);
        dueRow("sample(v, false)", v -> Made.metres(2, 0).sample(v, false), 1, 1, BAD);
        dueBad("sample(v, false)", v -> Made.metres(2, 0).sample(v, false), -1, 2);
        due("sample(199, true)", Made.fullOfBars().sample(199, true), 1);
        due("sample(200, true)", Made.fullOfBars().sample(200, true), BAD);
    }

    static void promise26_sample_theLatestLookCounts() {
        BilletBars x = Made.metres(2, 2);
        x.sample(0, false);
        dueRow("suspect(i)", x::suspect, 1, 1);
        x.sample(0, true);
        dueRow("suspect(i)", x::suspect, 0, 0);
        x.sample(0, true);
        dueRow("suspect(i)", x::suspect, 0, 0);
        x.sample(0, false);
        dueRow("suspect(i)", x::suspect, 1, 1);
    }

    static void promise26_sample_ofAgedBars() {
        BilletBars x = aged();
        due("sample(0, false)", x.sample(0, false), 1);
        due("suspect(2)", x.suspect(2), 1);
        due("bar(0, 6)", x.bar(0, 6), 0);
    }

    static void promise26_sample_badChangesNothing() {
        dueUnchanged("sample(7, false)", Made::busy, x -> x.sample(7, false), BAD);
        dueUnchanged("sample(-1, true)", Made::busy, x -> x.sample(-1, true), BAD);
    }

    // ---- promise 27: suspect

    static void promise27_suspect_barMustBeThere() {
        dueBad("suspect(v)", v -> Made.cutting().suspect(v), -1, 0);
        dueRow("suspect(v)", v -> Made.metres(2, 2).suspect(v), 0, 0, BAD);
        dueBad("suspect(v)", v -> Made.metres(2, 2).suspect(v), -1, 2);
    }

    static void promise27_suspect_noneBeforeALook() {
        dueRow("suspect(i)", i -> Made.sixBars().suspect(i), 0, 0, 0, 0, 0, 0);
    }

    static void promise27_suspect_noneWithGoodLooksAlone() {
        BilletBars x = Made.sixBars();
        x.sample(0, true);
        x.sample(5, true);
        dueRow("suspect(i)", x::suspect, 0, 0, 0, 0, 0, 0);
    }

    static void promise27_suspect_itselfAndAllOfItsDie() {
        BilletBars x = Made.sixBars();
        x.sample(2, false);
        dueRow("suspect(i)", x::suspect, 1, 0, 1, 1, 0, 1);
        BilletBars y = Made.sixBars();
        y.sample(4, false);
        dueRow("suspect(i)", y::suspect, 0, 1, 0, 0, 1, 0);
    }

    static void promise27_suspect_notBeyondAGoodOne() {
        BilletBars x = Made.sixBars();
        x.sample(2, true);
        x.sample(3, false);
        dueRow("suspect(i)", x::suspect, 0, 0, 0, 1, 0, 1);
        BilletBars y = Made.sixBars();
        y.sample(0, false);
        y.sample(3, true);
        dueRow("suspect(i)", y::suspect, 1, 0, 1, 0, 0, 0);
    }

    static void promise27_suspect_goodOnesNever() {
        BilletBars x = Made.sixBars();
        x.sample(0, false);
        x.sample(2, true);
        x.sample(3, false);
        dueRow("suspect(i)", x::suspect, 1, 0, 0, 1, 0, 1);
    }

    static void promise27_suspect_fromEitherSide() {
        BilletBars x = Made.metres(2, 2, 2, 2, 2);
        x.sample(0, true);
        x.sample(4, false);
        dueRow("suspect(i)", x::suspect, 0, 1, 1, 1, 1);
        x.sample(0, false);
        x.sample(4, true);
        dueRow("suspect(i)", x::suspect, 1, 1, 1, 1, 0);
        x.sample(2, true);
        dueRow("suspect(i)", x::suspect, 1, 1, 0, 0, 0);
    }

    static void promise27_suspect_aBadOneShieldsNone() {
        BilletBars x = Made.metres(2, 2, 2, 2);
        x.sample(0, true);
        x.sample(1, false);
        x.sample(2, false);
        dueRow("suspect(i)", x::suspect, 0, 1, 1, 1);
    }

    static void promise27_suspect_goodOnesOfOtherDiesAreNotBetween() {
        BilletBars x = Made.sixBars();
        x.sample(0, false);
        x.sample(1, true);
        x.sample(4, true);
        dueRow("suspect(i)", x::suspect, 1, 0, 1, 1, 0, 1);
    }

    static void promise27_suspect_dieCountsNotProfile() {
        BilletBars x = Made.cutting();
        x.die(0, 50);
        x.warm(1);
        x.pass(3);
        x.press(0, 200);
        x.press(1, 200);
        x.sample(0, false);
        dueRow("suspect(i)", x::suspect, 1, 0);
    }

    static void promise27_suspect_barsThatArePressedLater() {
        BilletBars x = Made.metres(2);
        x.sample(0, false);
        x.press(0, 200);
        due("suspect(1)", x.suspect(1), 1);
        x.sample(1, true);
        x.press(0, 200);
        due("suspect(2)", x.suspect(2), 0);
    }

    static void promise27_suspect_firstAndLastOf200() {
        BilletBars x = Made.fullOfBars();
        x.sample(0, false);
        due("suspect(0)", x.suspect(0), 1);
        due("suspect(49)", x.suspect(49), 1);
        due("suspect(50)", x.suspect(50), 0);
        x.sample(199, false);
        due("suspect(149)", x.suspect(149), 0);
        due("suspect(150)", x.suspect(150), 1);
        due("suspect(199)", x.suspect(199), 1);
        due("suspect(200)", x.suspect(200), BAD);
    }

    static void promise27_suspect_changesNothing() {
        dueUnchanged("suspect(1)", Made::busy, x -> x.suspect(1), 1);
        dueUnchanged("suspect(7)", Made::busy, x -> x.suspect(7), BAD);
        dueUnchanged("suspect(-1)", Made::busy, x -> x.suspect(-1), BAD);
    }

    // ---- promise 28: held

    static void promise28_held_0WhenNoneIsSuspect() {
        due("held()", new BilletBars().held(), 0);
        BilletBars x = Made.sixBars();
        due("held()", x.held(), 0);
        x.sample(0, true);
        due("held()", x.held(), 0);
    }

    static void promise28_held_goodsOfAllThatAreSuspect() {
        BilletBars x = Made.sixBars();
        x.sample(3, false);
        due("held()", x.held(), 2000 + 4000 + 2000 + 3000);
        x.sample(2, true);
        due("held()", x.held(), 2000 + 3000);
        x.sample(1, false);
        due("held()", x.held(), 2000 + 3000 + 3000 + 2000);
        x.sample(3, true);
        due("held()", x.held(), 3000 + 2000);
    }

    static void promise28_held_agedOnesToo() {
        BilletBars x = aged();
        x.sample(0, false);
        due("held()", x.held(), 5000);
    }

    static void promise28_held_suspectBarsWithoutGoods() {
        BilletBars x = Made.metres(0, 0);
        x.sample(0, false);
        due("suspect(1)", x.suspect(1), 1);
        due("held()", x.held(), 0);
    }

    static void promise28_held_all200() {
        BilletBars x = Made.fullOfBars();
        for (int bar = 0; bar < 200; bar += 50) {
            x.sample(bar, false);
        }
        due("held()", x.held(), 400000);
    }

    static void promise28_held_changesNothing() {
        dueUnchanged("held()", Made::busy, BilletBars::held, Made.busy().held());
    }
}
