/** Promises 1 to 9: a new object, profiles, dies. Each test is named after its promise and one sentence. */
final class DiesTests extends Answers {
    private DiesTests() {
    }

    /** A profile, a die with a limit, warm since as many ticks. */
    private static BilletBars warmFor(int ticks, int limit) {
        BilletBars x = Made.plain();
        x.die(0, limit);
        x.warm(0);
        if (ticks > 0) {
            x.pass(ticks);
        }
        return x;
    }

    /** Two profiles, no dies. */
    private static BilletBars twoProfiles() {
        BilletBars x = Made.plain();
        x.profile(0, 10, 0, 1000);
        return x;
    }

    // ---- promise 1: a new object

    static void promise01_newObject_hasNoProfiles() {
        BilletBars x = new BilletBars();
        due("count(0)", x.count(0), 0);
        due("die(0, 1)", x.die(0, 1), BAD);
        due("ready(0)", x.ready(0), BAD);
        due("order(0, 100, 1)", x.order(0, 100, 1), BAD);
        due("wanted(0, 0)", x.wanted(0, 0), BAD);
        due("pattern(0, 0, 0)", x.pattern(0, 0, 0), BAD);
        due("job(0, 1, 0)", x.job(0, 1, 0), BAD);
    }

    static void promise01_newObject_hasNoDies() {
        BilletBars x = Made.plain();
        due("count(1)", x.count(1), 0);
        due("warm(0)", x.warm(0), BAD);
        due("cool(0)", x.cool(0), BAD);
        due("nitride(0)", x.nitride(0), BAD);
        due("about(0, 0)", x.about(0, 0), BAD);
        due("ready(0)", x.ready(0), NONE);
        due("press(0, 200)", x.press(0, 200), BAD);
        due("best(0, false)", x.best(0, false), BAD);
    }

    static void promise01_newObject_hasNoBars() {
        BilletBars x = new BilletBars();
        due("count(3)", x.count(3), 0);
        due("count(7)", x.count(7), 0);
        due("count(5)", x.count(5), 0);
        due("bar(0, 0)", x.bar(0, 0), BAD);
        due("age()", x.age(), NOT);
        due("batches()", x.batches(), 0);
        due("sample(0, true)", x.sample(0, true), BAD);
        due("suspect(0)", x.suspect(0), BAD);
        due("held()", x.held(), 0);
        due("drift(0, 0)", x.drift(0, 0), -100000);
    }

    static void promise01_newObject_hasNoJobs() {
        BilletBars x = new BilletBars();
        due("count(4)", x.count(4), 0);
        due("late()", x.late(), 0);
        due("planned(0)", x.planned(0), BAD);
    }

    static void promise01_newObject_hasNoStock() {
        BilletBars x = Made.cutting();
        due("best(0, false)", x.best(0, false), NONE);
        due("stock(200)", x.stock(200), 1);
    }

    static void promise01_newObject_hasLostAllSheets() {
        dueRow("lose(s)", s -> new BilletBars().lose(s), NULL, NULL, NULL, NULL);
        dueRow("put(s, 0, 0, 1)", s -> new BilletBars().put(s, 0, 0, 1), NULL, NULL, NULL, NULL);
        dueRow("get(s, 0, 0)", s -> new BilletBars().get(s, 0, 0), LEAST, LEAST, LEAST, LEAST);
        dueRow("copy(s, 0, s, 0, 0)", s -> new BilletBars().copy(s, 0, s, 0, 0), NULL, NULL, NULL, NULL);
    }

    static void promise01_newObject_isAtTick0() {
        due("count(2)", new BilletBars().count(2), 0);
        due("pass(1)", new BilletBars().pass(1), 1);
    }

    static void promise01_newObject_hasTheLawsThatHoldAtFirst() {
        BilletBars x = new BilletBars();
        dueRow("law(what, 0)", what -> x.law(what, 0), 20, 500, 300, 400, 5, 5);
        due("change(0)", x.change(0), 2);
        due("room(1000)", x.room(1000), 100000);
    }

    static void promise01_newObject_hasNoMillimetresAndNoFinding() {
        BilletBars x = new BilletBars();
        dueRow("account(what)", x::account, 0, 0, 0, 0, 0, 0, 0);
        due("count(6)", x.count(6), 0);
    }

    static void promise01_newObject_sharesNothingWithOthers() {
        BilletBars old = Made.crowded();
        due("count(0)", old.count(0), 8);
        BilletBars x = new BilletBars();
        dueRow("count(what)", x::count, 0, 0, 0, 0, 0, 0, 0, 0);
        x.profile(0, 5, 0, 100);
        x.pass(50);
        due("count(0)", old.count(0), 8);
        due("count(2)", old.count(2), 6);
    }

    static void promise01_newObject_theConstantsAreTheDocuments() {
        due("NONE", BilletBars.NONE, NONE);
        due("BAD", BilletBars.BAD, BAD);
        due("NOT", BilletBars.NOT, NOT);
        due("FULL", BilletBars.FULL, FULL);
    }

    // ---- promise 2: profile

    static void promise02_profile_alloyIs0To2() {
        dueRange("profile(v, 5, 0, 100)", v -> new BilletBars().profile(v, 5, 0, 100), 0, 2, 0);
    }

    static void promise02_profile_ratioIs5To80() {
        dueRange("profile(0, v, 0, 100)", v -> new BilletBars().profile(0, v, 0, 100), 5, 80, 0);
    }

    static void promise02_profile_recipeIs0To3() {
        dueRange("profile(0, 5, v, 100)", v -> new BilletBars().profile(0, 5, v, 100), 0, 3, 0);
    }

    static void promise02_profile_gramsAre100To9999() {
        dueRange("profile(0, 5, 0, v)", v -> new BilletBars().profile(0, 5, 0, v), 100, 9999, 0);
    }

    static void promise02_profile_allThreeAlloysAreUnlike() {
        BilletBars x = new BilletBars();
        for (int alloy = 0; alloy <= 2; alloy++) {
            x.profile(alloy, 5, 0, 100);
            x.job(alloy, 1, 0);
        }
        x.change(20);
        // they end at 1, 22, 43
        due("late()", x.late(), 66);
    }

    /** All of the bar that the shortest billet gives with a ratio. */
    private static int lengthWithRatio(int ratio) {
        BilletBars x = Made.plain();
        x.profile(0, ratio, 0, 1000);
        x.die(1, 1);
        Made.rewarm(x, 0);
        x.press(0, 200);
        return x.bar(0, 2);
    }

    static void promise02_profile_leastAndGreatestRatioAreKept() {
        due("bar(0, 2) with ratio 5", lengthWithRatio(5), 1000);
        due("bar(0, 2) with ratio 80", lengthWithRatio(80), 16000);
    }

    static void promise02_profile_allFourRecipesAreUnlike() {
        BilletBars x = Made.plain();
        for (int recipe = 0; recipe <= 3; recipe++) {
            x.profile(0, 10, recipe, 1000);
            x.order(recipe + 1, 1000, 500);
            x.die(recipe + 1, 50);
            x.warm(recipe);
        }
        x.pass(3);
        for (int die = 0; die <= 3; die++) {
            x.press(die, 200);
            x.press(die, 200);
        }
        due("batches()", x.batches(), 4);
        dueRow("age()", n -> x.age(), 2, 2, 2, 2, NOT);
    }

    private static int driftWithGrams(int grams, int weight) {
        BilletBars x = Made.plain();
        x.profile(0, 10, 0, grams);
        x.die(1, 1);
        Made.rewarm(x, 0);
        x.press(0, 200);
        x.sheet(0, 2, 1);
        x.put(0, 2, 0, weight);
        return x.drift(0, 0);
    }

    static void promise02_profile_leastAndGreatestGramsAreKept() {
        due("drift(0, 0) with 100 grams", driftWithGrams(100, 103), 3);
        due("drift(0, 0) with 9999 grams", driftWithGrams(9999, 9992), -7);
    }

    static void promise02_profile_numbersAre0To7AndThenItIsFull() {
        BilletBars x = new BilletBars();
        dueRow("profile(2, 80, 3, 9999)", n -> x.profile(2, 80, 3, 9999), 0, 1, 2, 3, 4, 5, 6, 7, FULL, FULL);
        due("count(0)", x.count(0), 8);
        due("die(7, 1)", x.die(7, 1), 0);
        due("die(8, 1)", x.die(8, 1), BAD);
    }

    static void promise02_profile_badGoesAheadOfFull() {
        due("profile(3, 5, 0, 100)", Made.crowded().profile(3, 5, 0, 100), BAD);
        due("profile(0, 81, 0, 100)", Made.crowded().profile(0, 81, 0, 100), BAD);
        due("profile(0, 5, -1, 100)", Made.crowded().profile(0, 5, -1, 100), BAD);
        due("profile(0, 5, 0, 10000)", Made.crowded().profile(0, 5, 0, 10000), BAD);
    }

    static void promise02_profile_badChangesNothing() {
        dueUnchanged("profile(3, 5, 0, 100)", Made::busy, x -> x.profile(3, 5, 0, 100), BAD);
        dueUnchanged("profile(0, 4, 0, 100)", Made::busy, x -> x.profile(0, 4, 0, 100), BAD);
        dueUnchanged("profile(0, 5, 4, 100)", Made::busy, x -> x.profile(0, 5, 4, 100), BAD);
        dueUnchanged("profile(0, 5, 0, 99)", Made::busy, x -> x.profile(0, 5, 0, 99), BAD);
    }

    static void promise02_profile_fullChangesNothing() {
        dueUnchanged("profile(0, 5, 0, 100)", Made::crowded, x -> x.profile(0, 5, 0, 100), FULL);
    }

    // ---- promise 3: die

    static void promise03_die_profileMustBeThere() {
        dueRow("die(v, 1)", v -> twoProfiles().die(v, 1), 0, 0, BAD);
        dueBad("die(v, 1)", v -> twoProfiles().die(v, 1), -1, 2);
    }

    static void promise03_die_limitIs1To50() {
        dueRange("die(0, v)", v -> Made.plain().die(0, v), 1, 50, 0);
    }

    static void promise03_die_leastLimitLetsOneShotPass() {
        BilletBars x = warmFor(3, 1);
        due("about(0, 1)", x.about(0, 1), 1);
        dueRow("press(0, 200)", n -> x.press(0, 200), 0, NOT);
    }

    static void promise03_die_greatestLimitLetsFiftyShotsPass() {
        BilletBars x = Made.plain();
        x.die(0, 50);
        due("about(0, 1)", x.about(0, 1), 50);
        Made.press(x, 0, 200, 49);
        due("about(0, 4)", x.about(0, 4), 1);
        due("press(0, 200)", x.press(0, 200), 0);
        Made.rewarm(x, 0);
        due("press(0, 200)", x.press(0, 200), NOT);
        due("about(0, 2)", x.about(0, 2), 50);
    }

    static void promise03_die_numbersAre0To11AndThenItIsFull() {
        BilletBars x = Made.plain();
        dueRow("die(0, 50)", n -> x.die(0, 50), 0, 1, 2, 3, 4, 5, 6, 7, 8, 9, 10, 11, FULL, FULL);
        due("count(1)", x.count(1), 12);
        due("warm(11)", x.warm(11), 1);
        due("warm(12)", x.warm(12), BAD);
    }

    static void promise03_die_isColdAndWithoutShots() {
        BilletBars x = Made.pressing();
        x.press(0, 200);
        x.die(0, 7);
        dueRow("about(1, what)", what -> x.about(1, what), 0, 7, 0, NONE, 0, 0);
        due("cool(1)", x.cool(1), NOT);
        due("nitride(1)", x.nitride(1), 0);
    }

    static void promise03_die_badGoesAheadOfFull() {
        due("die(8, 1)", Made.crowded().die(8, 1), BAD);
        due("die(-1, 1)", Made.crowded().die(-1, 1), BAD);
        due("die(0, 0)", Made.crowded().die(0, 0), BAD);
        due("die(0, 51)", Made.crowded().die(0, 51), BAD);
    }

    static void promise03_die_badChangesNothing() {
        dueUnchanged("die(3, 1)", Made::busy, x -> x.die(3, 1), BAD);
        dueUnchanged("die(-1, 1)", Made::busy, x -> x.die(-1, 1), BAD);
        dueUnchanged("die(0, 0)", Made::busy, x -> x.die(0, 0), BAD);
        dueUnchanged("die(0, 51)", Made::busy, x -> x.die(0, 51), BAD);
    }

    static void promise03_die_fullChangesNothing() {
        dueUnchanged("die(0, 1)", Made::crowded, x -> x.die(0, 1), FULL);
    }

    // ---- promise 4: warm

    static void promise04_warm_dieMustBeThere() {
        dueBad("warm(v)", v -> Made.plain().warm(v), -1, 0);
        dueRow("warm(v)", v -> Made.busy().warm(v), NOT, NOT, NOT, 1, BAD);
        dueBad("warm(v)", v -> Made.busy().warm(v), -1, 4);
        due("warm(10)", Made.crowded().warm(10), 1);
        due("warm(11)", Made.crowded().warm(11), NOT);
        due("warm(12)", Made.crowded().warm(12), BAD);
    }

    static void promise04_warm_isFromNowOn() {
        BilletBars x = Made.plain();
        x.die(0, 1);
        x.pass(100);
        due("warm(0)", x.warm(0), 1);
        due("about(0, 3)", x.about(0, 3), 0);
        x.pass(1);
        due("about(0, 3)", x.about(0, 3), 1);
    }

    static void promise04_warm_inTick0() {
        BilletBars x = Made.plain();
        x.die(0, 1);
        due("warm(0)", x.warm(0), 1);
        due("about(0, 3)", x.about(0, 3), 0);
        due("warm(0)", x.warm(0), NOT);
    }

    static void promise04_warm_notWhenWarm() {
        due("warm(0) at once", warmFor(0, 1).warm(0), NOT);
        due("warm(0) when it may press", warmFor(3, 1).warm(0), NOT);
        due("warm(0) when it is too late to press", warmFor(13, 1).warm(0), NOT);
        due("warm(0) long after", warmFor(100, 1).warm(0), NOT);
    }

    static void promise04_warm_againAfterCool() {
        BilletBars x = warmFor(9, 1);
        x.cool(0);
        due("warm(0)", x.warm(0), 1);
        due("about(0, 3)", x.about(0, 3), 0);
    }

    static void promise04_warm_oneDieAlone() {
        BilletBars x = Made.plain();
        x.die(0, 1);
        x.die(0, 1);
        x.warm(1);
        due("about(0, 3)", x.about(0, 3), NONE);
        due("about(1, 3)", x.about(1, 3), 0);
    }

    static void promise04_warm_badAndNotChangeNothing() {
        dueUnchanged("warm(0)", Made::busy, x -> x.warm(0), NOT);
        dueUnchanged("warm(4)", Made::busy, x -> x.warm(4), BAD);
        dueUnchanged("warm(-1)", Made::busy, x -> x.warm(-1), BAD);
    }

    // ---- promise 5: cool

    static void promise05_cool_dieMustBeThere() {
        dueBad("cool(v)", v -> Made.plain().cool(v), -1, 0);
        dueRow("cool(v)", v -> Made.busy().cool(v), 10, 10, 10, NOT, BAD);
        dueBad("cool(v)", v -> Made.busy().cool(v), -1, 4);
        due("cool(12)", Made.crowded().cool(12), BAD);
    }

    static void promise05_cool_tellsTheTicks() {
        due("cool(0) at once", warmFor(0, 1).cool(0), 0);
        due("cool(0) after 1", warmFor(1, 1).cool(0), 1);
        due("cool(0) after 100", warmFor(100, 1).cool(0), 100);
    }

    static void promise05_cool_ticksAreSinceTheLatestWarm() {
        BilletBars x = warmFor(9, 1);
        x.cool(0);
        x.pass(20);
        x.warm(0);
        x.pass(4);
        due("cool(0)", x.cool(0), 4);
    }

    static void promise05_cool_notWhenCold() {
        BilletBars x = Made.plain();
        x.die(0, 1);
        due("cool(0) at first", x.cool(0), NOT);
        x.warm(0);
        x.cool(0);
        due("cool(0) again", x.cool(0), NOT);
        due("about(0, 3)", x.about(0, 3), NONE);
    }

    static void promise05_cool_leavesShots() {
        BilletBars x = warmFor(3, 5);
        x.press(0, 200);
        x.cool(0);
        due("about(0, 2)", x.about(0, 2), 1);
    }

    static void promise05_cool_badAndNotChangeNothing() {
        dueUnchanged("cool(3)", Made::busy, x -> x.cool(3), NOT);
        dueUnchanged("cool(4)", Made::busy, x -> x.cool(4), BAD);
        dueUnchanged("cool(-1)", Made::busy, x -> x.cool(-1), BAD);
    }

    // ---- promise 6: nitride

    static void promise06_nitride_dieMustBeThere() {
        dueBad("nitride(v)", v -> Made.plain().nitride(v), -1, 0);
        dueRow("nitride(v)", v -> Made.busy().nitride(v), NOT, NOT, NOT, 0, BAD);
        dueBad("nitride(v)", v -> Made.busy().nitride(v), -1, 4);
        due("nitride(12)", Made.crowded().nitride(12), BAD);
    }

    static void promise06_nitride_notWhenWarm() {
        BilletBars x = warmFor(0, 2);
        due("nitride(0) just warm", x.nitride(0), NOT);
        x.pass(3);
        x.press(0, 200);
        due("nitride(0) warm", x.nitride(0), NOT);
        due("about(0, 2)", x.about(0, 2), 1);
        x.pass(90);
        due("nitride(0) long warm", x.nitride(0), NOT);
    }

    static void promise06_nitride_tellsShotsTillNowAndNoneRemain() {
        BilletBars x = warmFor(3, 5);
        x.press(0, 200);
        x.press(0, 200);
        x.cool(0);
        due("nitride(0)", x.nitride(0), 2);
        due("about(0, 2)", x.about(0, 2), 0);
        due("nitride(0) again", x.nitride(0), 0);
        Made.press(x, 0, 200, 1);
        x.cool(0);
        due("nitride(0) after one more", x.nitride(0), 1);
        due("about(0, 5)", x.about(0, 5), 3);
    }

    static void promise06_nitride_aDieAtItsLimitMayPressAgain() {
        BilletBars x = warmFor(3, 1);
        x.press(0, 200);
        Made.rewarm(x, 0);
        due("press(0, 200)", x.press(0, 200), NOT);
        x.cool(0);
        due("nitride(0)", x.nitride(0), 1);
        Made.rewarm(x, 0);
        due("press(0, 200)", x.press(0, 200), 0);
    }

    static void promise06_nitride_atTheGreatestLimit() {
        BilletBars x = Made.plain();
        x.die(0, 50);
        Made.press(x, 0, 200, 50);
        x.cool(0);
        due("nitride(0)", x.nitride(0), 50);
        due("about(0, 5)", x.about(0, 5), 50);
    }

    static void promise06_nitride_badAndNotChangeNothing() {
        dueUnchanged("nitride(0)", Made::busy, x -> x.nitride(0), NOT);
        dueUnchanged("nitride(2)", Made::busy, x -> x.nitride(2), NOT);
        dueUnchanged("nitride(4)", Made::busy, x -> x.nitride(4), BAD);
        dueUnchanged("nitride(-1)", Made::busy, x -> x.nitride(-1), BAD);
    }

    // ---- promise 7: about

    static void promise07_about_dieMustBeThere() {
        dueBad("about(v, 1)", v -> Made.plain().about(v, 1), -1, 0);
        dueRow("about(v, 1)", v -> Made.busy().about(v, 1), 50, 30, 2, 9, BAD);
        dueBad("about(v, 1)", v -> Made.busy().about(v, 1), -1, 4);
        due("about(11, 1)", Made.crowded().about(11, 1), 13);
        due("about(12, 1)", Made.crowded().about(12, 1), BAD);
    }

    static void promise07_about_whatIs0To5() {
        BilletBars x = Made.busy();
        dueRow("about(1, what)", what -> x.about(1, what), 1, 30, 2, 10, 1, 2, BAD);
        dueBad("about(1, what)", what -> x.about(1, what), -1, 6);
    }

    static void promise07_about_ticksWarmAreNoneWhenCold() {
        BilletBars x = Made.plain();
        x.die(0, 1);
        due("about(0, 3) at first", x.about(0, 3), NONE);
        x.warm(0);
        due("about(0, 3) just warm", x.about(0, 3), 0);
        x.pass(100);
        due("about(0, 3)", x.about(0, 3), 100);
        x.cool(0);
        due("about(0, 3) cold again", x.about(0, 3), NONE);
    }

    static void promise07_about_mayPressFrom3To12Ticks() {
        dueRow("about(0, 4), warm ticks", ticks -> warmFor(ticks, 1).about(0, 4),
            0, 0, 0, 1, 1, 1, 1, 1, 1, 1, 1, 1, 1, 0, 0);
        due("about(0, 4) after 100", warmFor(100, 1).about(0, 4), 0);
    }

    static void promise07_about_mayNotPressWhenCold() {
        BilletBars x = Made.plain();
        x.die(0, 1);
        x.pass(5);
        due("about(0, 4)", x.about(0, 4), 0);
        Made.rewarm(x, 0);
        due("about(0, 4)", x.about(0, 4), 1);
        x.cool(0);
        due("about(0, 4)", x.about(0, 4), 0);
    }

    static void promise07_about_mayPressWithFewerShotsThanTheLimit() {
        BilletBars x = warmFor(3, 3);
        dueRow("about(0, 4) after shots", shots -> {
            int may = x.about(0, 4);
            x.press(0, 200);
            return may;
        }, 1, 1, 1, 0, 0);
        due("about(0, 2)", x.about(0, 2), 3);
    }

    static void promise07_about_allShotsEverOutlastNitriding() {
        BilletBars x = warmFor(3, 2);
        x.press(0, 200);
        x.press(0, 200);
        x.cool(0);
        x.nitride(0);
        Made.press(x, 0, 200, 1);
        due("about(0, 2)", x.about(0, 2), 1);
        due("about(0, 5)", x.about(0, 5), 3);
    }

    static void promise07_about_changesNothing() {
        dueUnchanged("about(0, 4)", Made::busy, x -> x.about(0, 4), 1);
        dueUnchanged("about(0, 6)", Made::busy, x -> x.about(0, 6), BAD);
        dueUnchanged("about(4, 0)", Made::busy, x -> x.about(4, 0), BAD);
    }

    // ---- promise 8: ready

    static void promise08_ready_profileMustBeThere() {
        dueBad("ready(v)", v -> new BilletBars().ready(v), -1, 0);
        dueRow("ready(v)", v -> twoProfiles().ready(v), NONE, NONE, BAD);
        dueBad("ready(v)", v -> twoProfiles().ready(v), -1, 2);
        due("ready(7)", Made.crowded().ready(7), NONE);
        due("ready(8)", Made.crowded().ready(8), BAD);
    }

    static void promise08_ready_noneWithoutDies() {
        due("ready(0)", Made.plain().ready(0), NONE);
    }

    static void promise08_ready_warmFrom3To12Ticks() {
        dueRow("ready(0), warm ticks", ticks -> warmFor(ticks, 1).ready(0),
            NONE, NONE, NONE, 0, 0, 0, 0, 0, 0, 0, 0, 0, 0, NONE, NONE);
    }

    static void promise08_ready_noneWhenColdOrAtTheLimit() {
        BilletBars x = warmFor(3, 1);
        x.press(0, 200);
        due("ready(0) at the limit", x.ready(0), NONE);
        x.cool(0);
        x.nitride(0);
        due("ready(0) cold", x.ready(0), NONE);
        Made.rewarm(x, 0);
        due("ready(0)", x.ready(0), 0);
    }

    /** Dies 1, 2, 3 of profile 0 and die 0 of profile 1, all of which may press. */
    private static BilletBars fourDies() {
        BilletBars x = twoProfiles();
        x.die(1, 50);
        for (int die = 1; die <= 3; die++) {
            x.die(0, 50);
        }
        for (int die = 0; die <= 3; die++) {
            x.warm(die);
        }
        x.pass(3);
        return x;
    }

    static void promise08_ready_ofLikeOnesTheLeast() {
        due("ready(0)", fourDies().ready(0), 1);
        due("ready(1)", fourDies().ready(1), 0);
    }

    static void promise08_ready_theFewestShots() {
        BilletBars x = fourDies();
        x.press(1, 200);
        due("ready(0)", x.ready(0), 2);
        x.press(2, 200);
        due("ready(0)", x.ready(0), 3);
        x.press(3, 200);
        due("ready(0)", x.ready(0), 1);
        x.press(2, 200);
        x.press(1, 200);
        due("ready(0)", x.ready(0), 3);
        due("ready(1)", x.ready(1), 0);
    }

    static void promise08_ready_countsShotsSinceNitriding() {
        BilletBars x = fourDies();
        x.press(1, 200);
        x.press(1, 200);
        x.press(2, 200);
        x.press(3, 200);
        x.cool(1);
        x.nitride(1);
        Made.rewarm(x, 1);
        due("ready(0)", x.ready(0), 1);
    }

    static void promise08_ready_theLastDieOfAll() {
        BilletBars x = twoProfiles();
        for (int die = 0; die < 12; die++) {
            x.die(die < 11 ? 0 : 1, 1);
        }
        Made.rewarm(x, 11);
        due("ready(1)", x.ready(1), 11);
        due("ready(0)", x.ready(0), NONE);
    }

    static void promise08_ready_changesNothing() {
        dueUnchanged("ready(0)", Made::busy, x -> x.ready(0), 0);
        dueUnchanged("ready(3)", Made::busy, x -> x.ready(3), BAD);
    }

    // ---- promise 9: pass

    static void promise09_pass_ticksAre1To100() {
        due("pass(1)", new BilletBars().pass(1), 1);
        due("pass(2)", new BilletBars().pass(2), 2);
        due("pass(99)", new BilletBars().pass(99), 99);
        due("pass(100)", new BilletBars().pass(100), 100);
        dueBad("pass(n)", n -> new BilletBars().pass(n), 0, 101);
    }

    static void promise09_pass_tellsTheTickThen() {
        BilletBars x = new BilletBars();
        x.pass(100);
        due("pass(1)", x.pass(1), 101);
        due("pass(100)", x.pass(100), 201);
        due("count(2)", x.count(2), 201);
    }

    static void promise09_pass_asOftenAsThereAreCalls() {
        BilletBars x = new BilletBars();
        for (int n = 1; n <= 511; n++) {
            due("pass(100)", x.pass(100), 100 * n);
        }
        due("count(2)", x.count(2), 51100);
    }

    static void promise09_pass_badChangesNothing() {
        dueUnchanged("pass(0)", Made::busy, x -> x.pass(0), BAD);
        dueUnchanged("pass(101)", Made::busy, x -> x.pass(101), BAD);
        dueUnchanged("pass(-1)", Made::busy, x -> x.pass(-1), BAD);
    }
}
